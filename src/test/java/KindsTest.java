/** Promises 20 to 24: mark, keep, back, count, trace. */
public final class KindsTest {
    private static final Check CHECK = new Check();
    private static final String HOUSE = "landing;landing;fork 0 1 3;cup 2 2;sieve 3 2;";

    public static void main(String[] args) {
        marks();
        marksThatAreNone();
        traces();
        images();
        imagesKeepNothingElse();
        imagesKeepWhatMayBeUndone();
        counts();
        CHECK.end();
    }

    private static void marks() {
        WallMarbles x = Check.of(HOUSE);
        int[] sizes = {1, 1, 1, 1, 0, 0, 0};
        for (int size : sizes) {
            x.let(size);
        }
        // Stands 0 0 5 1 0; three at 0, two at 1; seven let in.
        int[][] due = {
            {0, 0, 5, 1, 0},
            {0, 0, 8, 3, 0},
            {0, -1, 3, -2, -4},
            {0, 0, 16, 6, 0},
            {7, 6, 10, 5, 3},
            {3, 2, 5, 1, 0},
        };
        for (int kind = 0; kind < 6; kind++) {
            for (int k = 0; k < 5; k++) {
                CHECK.due("mark(" + kind + ", " + k + ")", x.mark(kind, k), due[kind][k]);
            }
        }
    }

    private static void marksThatAreNone() {
        WallMarbles empty = new WallMarbles();
        CHECK.due("no PARTS: mark(0, 0)", empty.mark(0, 0), WallMarbles.NO);
        WallMarbles x = Check.of(HOUSE);
        CHECK.due("mark(6, 0)", x.mark(6, 0), WallMarbles.NO);
        CHECK.due("mark(-1, 0)", x.mark(-1, 0), WallMarbles.NO);
        CHECK.due("mark(0, 5)", x.mark(0, 5), WallMarbles.NO);
        CHECK.due("mark(0, -1)", x.mark(0, -1), WallMarbles.NO);
        CHECK.due("mark, most", x.mark(Integer.MAX_VALUE, Integer.MAX_VALUE), WallMarbles.NO);
        CHECK.due("mark, least", x.mark(Integer.MIN_VALUE, Integer.MIN_VALUE), WallMarbles.NO);
        CHECK.due("trace() of these", x.trace(), 0);
    }

    private static void traces() {
        int[] due = {1, 11, 101, 1011, 10101, 100001};
        for (int kind = 0; kind < 6; kind++) {
            WallMarbles x = Check.of(HOUSE);
            x.mark(kind, 0);
            CHECK.due("trace() of mark(" + kind + ", 0)", x.trace(), due[kind]);
            x.mark(kind, 2);
            CHECK.due("trace() of two", x.trace(), 2L * due[kind]);
        }
        WallMarbles x = Check.of(HOUSE);
        x.keep(0);
        for (int i = 0; i < 480; i++) {
            x.mark(5, 0);
        }
        x.back(0);
        CHECK.due("trace() of many", x.trace(), 48000480L);
    }

    private static void images() {
        WallMarbles x = Check.of(HOUSE);
        CHECK.due("keep(2)", x.keep(2), WallMarbles.BAD);
        CHECK.due("keep(-1)", x.keep(-1), WallMarbles.BAD);
        CHECK.due("back(2)", x.back(2), WallMarbles.BAD);
        CHECK.due("back(-1)", x.back(-1), WallMarbles.BAD);
        CHECK.due("back(0)", x.back(0), WallMarbles.STATE);
        x.let(1);
        CHECK.due("keep(0)", x.keep(0), 1);
        CHECK.due("back(1)", x.back(1), WallMarbles.STATE);
        x.let(0);
        x.lodge(3);
        CHECK.due("keep(1)", x.keep(1), 2);
        x.lodge(4);
        x.let(0);
        CHECK.due("back(0)", x.back(0), 1);
        CHECK.due("now(0)", x.now(0), 1);
        CHECK.due("now(1)", x.now(1), 1);
        CHECK.due("now(2)", x.now(2), WallMarbles.NONE);
        CHECK.due("now(3)", x.now(3), 0);
        CHECK.due("part(2, 4)", x.part(2, 4), 1);
        CHECK.due("part(0, 5)", x.part(0, 5), 1);
        CHECK.due("back(1)", x.back(1), 2);
        CHECK.due("now(2)", x.now(2), 3);
        CHECK.due("now(3)", x.now(3), 1);
        x.lodge(-1);
        x.let(1);
        CHECK.due("an image stays as it was", x.back(1), 2);
        CHECK.due("now(1)", x.now(1), 1);
        CHECK.due("now(2)", x.now(2), 3);
        CHECK.due("keep(0) anew", x.keep(0), 2);
        x.undo();
        CHECK.due("back(0)", x.back(0), 2);
        CHECK.due("no PARTS: keep(0)", new WallMarbles().keep(0), 0);
    }

    private static void imagesKeepNothingElse() {
        WallMarbles x = Check.of(HOUSE);
        x.keep(0);
        x.tried(0, 0);
        x.mark(0, 0);
        Check.typed(x, "land");
        x.back(0);
        CHECK.due("TRIED", x.count(2), 1);
        CHECK.due("THE TRACE", x.trace(), 1);
        CHECK.due("THE TEXT", x.count(4), 4);
    }

    private static void imagesKeepWhatMayBeUndone() {
        WallMarbles x = Check.of(HOUSE);
        for (int i = 0; i < 23; i++) {
            x.let(1);
        }
        x.keep(1);
        for (int i = 0; i < 20; i++) {
            x.let(0);
        }
        for (int i = 0; i < 15; i++) {
            x.undo();
        }
        CHECK.due("count(3)", x.count(3), 5);
        CHECK.due("back(1)", x.back(1), 23);
        CHECK.due("count(3)", x.count(3), 20);
        for (int i = 22; i >= 3; i--) {
            CHECK.due("undo()", x.undo(), i);
            CHECK.due("part(2, 4)", x.part(2, 4), i % 6);
            CHECK.due("now(1)", x.now(1), i);
        }
        CHECK.due("undo() of none known", x.undo(), WallMarbles.STATE);
    }

    private static void counts() {
        WallMarbles x = Check.of(HOUSE);
        x.let(0);
        x.let(1);
        x.tried(0, 0);
        x.tried(0, 0);
        x.tried(0, 0);
        Check.typed(x, "cup ;");
        int[] due = {5, 2, 3, 2, 5};
        for (int what = 0; what < 5; what++) {
            CHECK.due("count(" + what + ")", x.count(what), due[what]);
        }
        CHECK.due("count(5)", x.count(5), WallMarbles.BAD);
        CHECK.due("count(-1)", x.count(-1), WallMarbles.BAD);
        CHECK.due("count, most", x.count(Integer.MAX_VALUE), WallMarbles.BAD);
        CHECK.due("count, least", x.count(Integer.MIN_VALUE), WallMarbles.BAD);
    }
}
