import java.util.ArrayList;
import java.util.List;

/** All that can be asked of an object, so that two objects can be compared to the last answer. */
final class Probe {
    /** With the calls that make a State these stay below the 512 that an object is used for. */
    static final int MOST_CALLS = 300;

    private final WallMarbles x;
    private final List<Long> answers = new ArrayList<>();

    private Probe(WallMarbles x) {
        this.x = x;
    }

    /** The object is used up by this: marbles are undone, images come back, THE TEXT is read. */
    static List<Long> of(WallMarbles x) {
        Probe probe = new Probe(x);
        probe.looks();
        probe.asks();
        probe.undoes();
        probe.goesBack(0);
        probe.goesBack(1);
        probe.reads();
        return probe.answers;
    }

    private void answer(long one) {
        answers.add(one);
    }

    private void looks() {
        for (int what = 0; what < 5; what++) {
            answer(x.count(what));
        }
        for (int what = 0; what < 4; what++) {
            answer(x.now(what));
        }
        for (int k = 0; k < 9; k++) {
            for (int what = 0; what < 6; what++) {
                answer(x.part(k, what));
            }
        }
        answer(x.trace());
    }

    private void asks() {
        for (int i = 0; i < 9; i++) {
            answer(x.brings(121121222, i));
        }
        answer(x.shortest(1));
        answer(x.shortest(12));
        answer(x.round(0));
        answer(x.round(1));
        answer(x.standings());
        answer(x.apart(1122, 2211));
        answer(x.lodges());
        answer(x.trial(0));
        answer(x.trial(1));
        for (int n = 0; n < 10; n += 3) {
            answer(x.called(n));
        }
    }

    private void undoes() {
        for (int i = 0; i < 21; i++) {
            answer(x.undo());
            answer(x.now(1));
            answer(x.now(3));
            for (int k = 0; k < 9 && i % 5 == 0; k++) {
                answer(x.part(k, 4));
            }
        }
    }

    private void goesBack(int image) {
        answer(x.back(image));
        answer(x.now(2));
        answer(x.count(3));
        for (int k = 0; k < 9; k++) {
            answer(x.part(k, 4));
            answer(x.part(k, 5));
        }
        answer(x.undo());
        answer(x.now(1));
    }

    private void reads() {
        answer(x.house());
        answer(x.count(0));
        answer(x.count(4));
        answer(x.part(1, 0));
        answer(x.part(1, 3));
    }
}
