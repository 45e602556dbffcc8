/** Promises 6 to 9: let, undo, lodge, now. */
public final class MarblesTest {
    private static final Check CHECK = new Check();

    public static void main(String[] args) {
        forks();
        sieves();
        cups();
        nineParts();
        refusedMarbles();
        takenBack();
        onlyTwentyAreKnown();
        lodged();
        lodgedStandsStay();
        howAllStands();
        CHECK.end();
    }

    private static void lets(String house, String sizes, int... comes) {
        WallMarbles x = Check.of(house);
        for (int i = 0; i < comes.length; i++) {
            int size = sizes.charAt(i % sizes.length()) - '0';
            CHECK.due(house + " let " + i, x.let(size), comes[i]);
            CHECK.due(house + " now(0)", x.now(0), i + 1);
        }
    }

    private static void forks() {
        lets("landing;landing;fork 0 1 1;", "01", 0, 1, 0, 1, 0);
        lets("landing;landing;fork 0 1 2;", "0", 0, 0, 1, 1, 0, 0, 1);
        lets("landing;landing;fork 1 0 3;", "1", 1, 1, 1, 0, 0, 0, 1);
        lets("landing;fork 0 0 2;", "0", 0, 0, 0);
        WallMarbles x = Check.of("landing;landing;fork 0 1 3;");
        int[] stands = {1, 2, 3, 4, 5, 0, 1};
        for (int stand : stands) {
            x.let(0);
            CHECK.due("a fork's STAND", x.part(2, 4), stand);
        }
    }

    private static void sieves() {
        lets("landing;landing;sieve 0 1;", "0110", 0, 1, 1, 0);
        lets("landing;landing;sieve 1 0;", "0110", 1, 0, 0, 1);
        lets("landing;landing;sieve 1 1;", "01", 1, 1);
        WallMarbles x = Check.of("landing;landing;sieve 1 0;");
        x.let(1);
        CHECK.due("a sieve's STAND", x.part(2, 4), 0);
        CHECK.due("at a sieve", x.part(2, 5), 0);
        CHECK.due("a landing's STAND", x.part(0, 4), 0);
        CHECK.due("at a landing", x.part(0, 5), 1);
    }

    private static void cups() {
        lets("landing;cup 0 2;", "01", -9, 0, -9, 0);
        lets("landing;cup 0 3;", "0", -9, -9, 0, -9, -9, 0);
        lets("landing;cup 0 4;", "1", -9, -9, -9, 0, -9);
        // The one that goes on keeps its size; those ahead are gone.
        lets("landing;landing;sieve 0 1;cup 2 2;", "0110", -9, 1, -9, 0);
        lets("landing;cup 0 2;cup 1 2;", "0", -9, -9, -9, 0, -9);
        WallMarbles x = Check.of("landing;cup 0 3;");
        int[] stands = {1, 2, 0, 1};
        for (int stand : stands) {
            x.let(0);
            CHECK.due("a cup's STAND", x.part(1, 4), stand);
        }
        CHECK.due("only the third is there", x.part(0, 5), 1);
    }

    private static void nineParts() {
        lets("landing;sieve 0 0;sieve 1 1;sieve 2 2;sieve 3 3;sieve 4 4;sieve 5 5;sieve 6 6;sieve 7 7;", "01", 0, 0, 0);
        WallMarbles x = Check.of("landing;fork 0 0 3;fork 1 1 3;fork 2 2 3;fork 3 3 3;fork 4 4 3;fork 5 5 3;"
            + "fork 6 6 3;fork 7 7 3;");
        for (int i = 1; i <= 7; i++) {
            CHECK.due("through nine PARTS", x.let(i % 2), 0);
            for (int k = 1; k < 9; k++) {
                CHECK.due("the STAND of each", x.part(k, 4), i % 6);
            }
        }
        CHECK.due("a round of all", x.round(0), 6);
        CHECK.due("standings of all", x.standings(), 6);
        CHECK.due("undo()", x.undo(), 6);
        CHECK.due("the first STAND again", x.called(6), 64);
        x.lodge(8);
        CHECK.due("it stays at the last PART", x.let(0), WallMarbles.NONE);
        CHECK.due("all CALLED", x.called(9), 512);
    }

    private static void refusedMarbles() {
        WallMarbles x = new WallMarbles();
        CHECK.due("BAD ahead of STATE", x.let(2), WallMarbles.BAD);
        CHECK.due("no PARTS", x.let(1), WallMarbles.STATE);
        Check.told(x, "landing;");
        CHECK.due("let(-1)", x.let(-1), WallMarbles.BAD);
        CHECK.due("let(2)", x.let(2), WallMarbles.BAD);
        CHECK.due("none was let in", x.now(0), 0);
        for (int i = 0; i < 100; i++) {
            CHECK.due("let " + i, x.let(i % 2), 0);
        }
        CHECK.due("100 were", x.let(0), WallMarbles.FULL);
        CHECK.due("BAD ahead of FULL", x.let(2), WallMarbles.BAD);
        CHECK.due("now(0)", x.now(0), 100);
        CHECK.due("now(1)", x.now(1), 100);
        CHECK.due("undo()", x.undo(), 99);
        CHECK.due("one more then", x.let(0), 0);
        CHECK.due("100 again", x.let(0), WallMarbles.FULL);
    }

    private static void takenBack() {
        WallMarbles x = Check.of("landing;landing;fork 0 1 1;cup 2 2;");
        CHECK.due("undo() of none", x.undo(), WallMarbles.STATE);
        x.let(0);
        x.let(0);
        x.let(0);
        CHECK.due("undo()", x.undo(), 2);
        CHECK.due("part(3, 4)", x.part(3, 4), 0);
        CHECK.due("part(2, 4)", x.part(2, 4), 1);
        CHECK.due("part(0, 5)", x.part(0, 5), 1);
        CHECK.due("undo()", x.undo(), 1);
        CHECK.due("part(3, 4)", x.part(3, 4), 1);
        CHECK.due("part(2, 4)", x.part(2, 4), 0);
        CHECK.due("part(0, 5)", x.part(0, 5), 0);
        CHECK.due("count(3)", x.count(3), 1);
        CHECK.due("undo()", x.undo(), 0);
        CHECK.due("part(3, 4)", x.part(3, 4), 0);
        CHECK.due("undo() of none", x.undo(), WallMarbles.STATE);
        // A LODGED one stays lodged; what was let in ahead of it goes back all the same.
        x.let(0);
        x.let(0);
        CHECK.due("lodge(2)", x.lodge(2), WallMarbles.NONE);
        CHECK.due("undo() with a lodged one", x.undo(), 1);
        CHECK.due("now(2)", x.now(2), 2);
        CHECK.due("part(2, 4)", x.part(2, 4), 0);
        CHECK.due("part(0, 5)", x.part(0, 5), 0);
        CHECK.due("part(3, 4)", x.part(3, 4), 1);
    }

    private static void onlyTwentyAreKnown() {
        WallMarbles x = Check.of("landing;landing;fork 0 1 3;");
        for (int i = 1; i <= 25; i++) {
            x.let(0);
            CHECK.due("count(3) behind " + i, x.count(3), Math.min(i, 20));
        }
        for (int i = 24; i >= 5; i--) {
            CHECK.due("undo()", x.undo(), i);
            CHECK.due("STAND behind undo()", x.part(2, 4), i % 6);
            CHECK.due("all at LANDINGS", x.now(1), i);
            CHECK.due("count(3)", x.count(3), i - 5);
        }
        CHECK.due("older ones are lost", x.undo(), WallMarbles.STATE);
        CHECK.due("now(0)", x.now(0), 5);
        CHECK.due("part(0, 5)", x.part(0, 5), 3);
        CHECK.due("part(1, 5)", x.part(1, 5), 2);
    }

    private static void lodged() {
        WallMarbles x = new WallMarbles();
        CHECK.due("no PARTS: lodge(0)", x.lodge(0), WallMarbles.BAD);
        CHECK.due("no PARTS: lodge(-1)", x.lodge(-1), WallMarbles.NONE);
        Check.told(x, "landing;landing;fork 0 1 1;");
        CHECK.due("lodge(3)", x.lodge(3), WallMarbles.BAD);
        CHECK.due("lodge(-2)", x.lodge(-2), WallMarbles.BAD);
        CHECK.due("lodge(-9)", x.lodge(WallMarbles.NONE), WallMarbles.BAD);
        CHECK.due("now(2)", x.now(2), WallMarbles.NONE);
        CHECK.due("lodge(1)", x.lodge(1), WallMarbles.NONE);
        CHECK.due("now(2)", x.now(2), 1);
        CHECK.due("let: LEFT", x.let(0), 0);
        CHECK.due("let: RIGHT, it stays", x.let(0), WallMarbles.NONE);
        CHECK.due("now(1)", x.now(1), 1);
        CHECK.due("part(1, 5)", x.part(1, 5), 0);
        CHECK.due("lodge(9)", x.lodge(9), WallMarbles.BAD);
        CHECK.due("lodge(0): which was", x.lodge(0), 1);
        CHECK.due("let: LEFT, it stays", x.let(0), WallMarbles.NONE);
        CHECK.due("let: RIGHT", x.let(0), 1);
        CHECK.due("lodge(-1): which was", x.lodge(-1), 0);
        CHECK.due("now(2)", x.now(2), WallMarbles.NONE);
        CHECK.due("let: LEFT", x.let(0), 0);
    }

    private static void lodgedStandsStay() {
        WallMarbles x = Check.of("landing;landing;fork 0 1 2;cup 2 3;");
        x.let(0);
        x.let(0);
        x.lodge(3);
        for (int i = 0; i < 4; i++) {
            CHECK.due("it stays at the cup", x.let(1), WallMarbles.NONE);
            CHECK.due("the cup's STAND", x.part(3, 4), 2);
        }
        CHECK.due("now(0)", x.now(0), 6);
        x.lodge(2);
        CHECK.due("it goes on, and stays at the fork", x.let(1), WallMarbles.NONE);
        CHECK.due("the cup's STAND", x.part(3, 4), 0);
        CHECK.due("the fork's STAND", x.part(2, 4), 0);
        x.lodge(-1);
        x.let(0);
        x.let(0);
        CHECK.due("the third goes on", x.let(0), 0);
    }

    private static void howAllStands() {
        WallMarbles x = Check.of("landing;cup 0 2;cup 0 2;fork 1 2 1;");
        int[] holding = {1, 2, 1, 0, 1};
        for (int cups : holding) {
            x.let(0);
            CHECK.due("how many CUPS hold", x.now(3), cups);
        }
        CHECK.due("now(0)", x.now(0), 5);
        CHECK.due("now(1)", x.now(1), 2);
        CHECK.due("now(4)", x.now(4), WallMarbles.BAD);
        CHECK.due("now(-1)", x.now(-1), WallMarbles.BAD);
        CHECK.due("now, most", x.now(Integer.MAX_VALUE), WallMarbles.BAD);
        CHECK.due("now, least", x.now(Integer.MIN_VALUE), WallMarbles.BAD);
        // A cup that holds three is one cup; forks do not hold.
        WallMarbles y = Check.of("landing;cup 0 4;fork 1 1 3;");
        y.let(0);
        y.let(0);
        y.let(0);
        CHECK.due("one CUP holds", y.now(3), 1);
    }
}
