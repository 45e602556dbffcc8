import java.util.List;
import java.util.function.ToLongFunction;

/** Tests of single sentences: each quotes the words that it tests, and the document must have them. */
abstract class Edges {
    static final int BAD = WallMarbles.BAD;
    static final int STATE = WallMarbles.STATE;
    static final int FULL = WallMarbles.FULL;
    static final int NONE = WallMarbles.NONE;
    static final int NO = WallMarbles.NO;
    static final int LEAST = Integer.MIN_VALUE;
    static final int MOST = Integer.MAX_VALUE;

    private final Check check;
    private final Doc doc;
    private String chapter = "";

    Edges(Check check, Doc doc) {
        this.check = check;
        this.doc = doc;
    }

    abstract void all();

    void chapter(String name) {
        chapter = name;
    }

    void says(String words, Runnable test) {
        check.under(chapter + " '" + words + "'");
        check.holds("the document has these words", doc.quote(chapter, words));
        int before = check.looked();
        test.run();
        check.holds("the test looks at an answer", check.looked() > before);
        check.under("");
    }

    void due(String call, long got, long want) {
        check.due(call, got, want);
    }

    /** The call answers so, and all answers behind it are those of an object that it was not asked of. */
    void refused(String call, long answer, State state, ToLongFunction<WallMarbles> asked) {
        WallMarbles x = state.made();
        check.due(state + ": " + call, asked.applyAsLong(x), answer);
        same(state + ": " + call, x, state.made());
    }

    void refusedEverywhere(String call, long answer, ToLongFunction<WallMarbles> asked) {
        for (State state : State.values()) {
            refused(call, answer, state, asked);
        }
    }

    void refusedWithoutParts(String call, ToLongFunction<WallMarbles> asked) {
        refused(call, STATE, State.NEW, asked);
        refused(call, STATE, State.TYPED, asked);
    }

    /** A question changes nothing, whatever it answers. */
    void asksOnly(String call, ToLongFunction<WallMarbles> asked) {
        for (State state : State.values()) {
            WallMarbles x = state.made();
            asked.applyAsLong(x);
            same(state + ": " + call, x, state.made());
        }
    }

    void same(String behind, WallMarbles x, WallMarbles other) {
        List<Long> got = Probe.of(x);
        List<Long> want = Probe.of(other);
        check.holds("a probe stays below its calls", want.size() <= Probe.MOST_CALLS);
        check.due("behind " + behind + ": as many answers", got.size(), want.size());
        for (int i = 0; i < Math.min(got.size(), want.size()); i++) {
            check.due("behind " + behind + ": answer " + i, got.get(i), want.get(i));
        }
    }

    void reads(String text, int items) {
        WallMarbles x = new WallMarbles();
        check.due("house() of '" + text + "'", Check.told(x, text), items);
        check.due("PARTS of '" + text + "'", x.count(0), items);
        check.due("bytes left of '" + text + "'", x.count(4), 0);
    }

    void fault(String text, int place) {
        WallMarbles x = new WallMarbles();
        check.due("house() of '" + text + "'", Check.told(x, text), -10 - place);
        check.due("PARTS of '" + text + "'", x.count(0), 0);
        check.due("bytes left of '" + text + "'", x.count(4), text.length());
    }

    /** Lets marbles in by size, one behind another, each with what must come of it. */
    void lets(WallMarbles x, String sizes, int... comes) {
        check.due("as many sizes as comings", sizes.length(), comes.length);
        for (int i = 0; i < comes.length; i++) {
            check.due("marble " + i + " of " + sizes, x.let(sizes.charAt(i) - '0'), comes[i]);
        }
    }

    static void letMany(WallMarbles x, int marbles, int size) {
        for (int i = 0; i < marbles; i++) {
            x.let(size);
        }
    }
}
