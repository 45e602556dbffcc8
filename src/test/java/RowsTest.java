/** Promises 10 to 14: brings, shortest, round, standings, apart. */
public final class RowsTest {
    private static final Check CHECK = new Check();
    private static final String FORKED = "landing;landing;landing;fork 0 1 1;cup 2 2;sieve 3 4;";

    public static void main(String[] args) {
        rowsThatAreNone();
        brought();
        shortestRows();
        shortestOfNineAtMost();
        shortestFromNow();
        landingsThatAreNone();
        rounds();
        standingsThatCome();
        rowsApart();
        nothingIsChanged();
        CHECK.end();
    }

    private static void rowsThatAreNone() {
        int[] none = {-1, 3, 10, 20, 101, 13, 31, 123, 311111111, 111131111, 911111111, 1111111111, 2111111111, 1000000000,
            Integer.MAX_VALUE, Integer.MIN_VALUE, -12};
        WallMarbles empty = new WallMarbles();
        WallMarbles x = Check.of(FORKED);
        for (int row : none) {
            CHECK.due("brings(" + row + ", 0)", x.brings(row, 0), WallMarbles.BAD);
            CHECK.due("no PARTS: brings(" + row + ", 0)", empty.brings(row, 0), WallMarbles.BAD);
            CHECK.due("apart(" + row + ", 1)", x.apart(row, 1), WallMarbles.BAD);
            CHECK.due("apart(1, " + row + ")", x.apart(1, row), WallMarbles.BAD);
            CHECK.due("apart of two alike", x.apart(row, row), WallMarbles.BAD);
        }
        CHECK.due("brings(1, -1)", x.brings(1, -1), WallMarbles.BAD);
        CHECK.due("brings(1, least)", x.brings(1, Integer.MIN_VALUE), WallMarbles.BAD);
        CHECK.due("no PARTS: brings(1, 0)", empty.brings(1, 0), WallMarbles.STATE);
        CHECK.due("no PARTS: brings(0, 0)", empty.brings(0, 0), WallMarbles.STATE);
        CHECK.due("no PARTS: brings(1, 7)", empty.brings(1, 7), WallMarbles.STATE);
        CHECK.due("no PARTS: apart(1, 2)", empty.apart(1, 2), WallMarbles.STATE);
        CHECK.due("no PARTS: apart(0, 0)", empty.apart(0, 0), WallMarbles.STATE);
        CHECK.due("no PARTS: apart(1, 22)", empty.apart(1, 22), WallMarbles.BAD);
    }

    private static void brought() {
        WallMarbles x = Check.of(FORKED);
        int[] due = {0, 1, -9, 2, 0, -9, 1, 2, 0};
        for (int i = 0; i < 9; i++) {
            CHECK.due("brings(112212121, " + i + ")", x.brings(112212121, i), due[i]);
        }
        CHECK.due("not so long", x.brings(112212121, 9), -5);
        CHECK.due("not so long", x.brings(112212121, Integer.MAX_VALUE), -5);
        CHECK.due("not so long", x.brings(12, 2), -5);
        CHECK.due("a ROW of none", x.brings(0, 0), -5);
        CHECK.due("the last", x.brings(12, 1), -9);
        x.let(0);
        x.let(1);
        CHECK.due("from NOW", x.brings(12, 0), 1);
        CHECK.due("from NOW", x.brings(12, 1), 2);
        x.lodge(1);
        CHECK.due("it stays", x.brings(12, 0), WallMarbles.NONE);
        CHECK.due("behind it", x.brings(11, 1), 0);
    }

    private static void shortestRows() {
        WallMarbles x = Check.of(FORKED);
        CHECK.due("shortest(0)", x.shortest(0), 0);
        CHECK.due("shortest(1)", x.shortest(1), 1);
        CHECK.due("shortest(2)", x.shortest(2), WallMarbles.NONE);
        CHECK.due("shortest(3)", x.shortest(3), 22);
        CHECK.due("shortest(12)", x.shortest(12), 11);
        CHECK.due("shortest(21)", x.shortest(21), WallMarbles.NONE);
        // Held ones go between: the first of the several is small ahead of large.
        CHECK.due("shortest(13)", x.shortest(13), 122);
        CHECK.due("shortest(31)", x.shortest(31), 221);
        CHECK.due("shortest(132)", x.shortest(132), 1221);
        CHECK.due("shortest(3333)", x.shortest(3333), 22222222);
        CHECK.due("shortest(1212)", x.shortest(1212), 1111);
        WallMarbles both = Check.of("landing;landing;sieve 0 1;sieve 0 2;");
        CHECK.due("small ahead of large", both.shortest(11), 11);
        CHECK.due("large where it must be", both.shortest(1212), 1212);
        WallMarbles cup = Check.of("landing;landing;sieve 0 1;cup 2 3;");
        CHECK.due("held ones are small ahead of large", cup.shortest(2), 112);
        CHECK.due("held ones are small ahead of large", cup.shortest(21), 112111);
        // The smaller one is asked first, but the row of fewer goes ahead.
        WallMarbles fewer = Check.of("landing;cup 0 3;sieve 1 0;");
        CHECK.due("fewer ahead of small", fewer.shortest(1), 2);
    }

    private static void shortestOfNineAtMost() {
        WallMarbles nine = Check.of("landing;cup 0 3;cup 1 3;");
        CHECK.due("nine marbles", nine.shortest(1), 111111111);
        CHECK.due("more than nine", nine.shortest(11), WallMarbles.NONE);
        WallMarbles ten = Check.of("landing;cup 0 3;cup 1 4;");
        CHECK.due("twelve would be needed", ten.shortest(1), WallMarbles.NONE);
        WallMarbles four = Check.of("landing;");
        CHECK.due("shortest(1111)", four.shortest(1111), 1111);
        CHECK.due("shortest(11111)", four.shortest(11111), WallMarbles.BAD);
    }

    private static void shortestFromNow() {
        WallMarbles x = Check.of(FORKED);
        x.let(0);
        x.let(1);
        CHECK.due("from NOW", x.shortest(2), 1);
        CHECK.due("from NOW", x.shortest(3), 2);
        CHECK.due("from NOW", x.shortest(1), WallMarbles.NONE);
        x.lodge(1);
        // What stays at the LODGED part does not come: the fork leans on.
        CHECK.due("past a lodged one", x.shortest(1), 11);
        CHECK.due("a lodged LANDING", x.shortest(2), WallMarbles.NONE);
        x.lodge(5);
        CHECK.due("all stays", x.shortest(3), WallMarbles.NONE);
        CHECK.due("none is needed", x.shortest(0), 0);
    }

    private static void landingsThatAreNone() {
        WallMarbles x = Check.of(FORKED);
        int[] none = {-1, 4, 5, 6, 7, 9, 10, 14, 41, 101, 1001, 11111, 1000000001,
            Integer.MAX_VALUE, Integer.MIN_VALUE};
        for (int landings : none) {
            CHECK.due("shortest(" + landings + ")", x.shortest(landings), WallMarbles.BAD);
        }
        WallMarbles empty = new WallMarbles();
        CHECK.due("no PARTS: shortest(1)", empty.shortest(1), WallMarbles.BAD);
        CHECK.due("no PARTS: shortest(0)", empty.shortest(0), WallMarbles.STATE);
        WallMarbles last = Check.of("landing;".repeat(9));
        CHECK.due("the ninth PART", last.shortest(9), 1);
        CHECK.due("the ninth PART", last.shortest(9999), 1111);
        CHECK.due("another", last.shortest(8), WallMarbles.NONE);
    }

    private static void rounds() {
        WallMarbles x = Check.of(FORKED);
        CHECK.due("round(0)", x.round(0), 2);
        CHECK.due("round(1)", x.round(1), 2);
        CHECK.due("round(2)", x.round(2), WallMarbles.BAD);
        CHECK.due("round(-1)", x.round(-1), WallMarbles.BAD);
        x.let(0);
        x.let(1);
        CHECK.due("round(0) from NOW", x.round(0), 2);
        x.lodge(3);
        CHECK.due("round(0), the fork lodged", x.round(0), 1);
        CHECK.due("round(1), the fork lodged", x.round(1), 2);
        WallMarbles empty = new WallMarbles();
        CHECK.due("no PARTS: round(0)", empty.round(0), WallMarbles.STATE);
        CHECK.due("no PARTS: round(2)", empty.round(2), WallMarbles.BAD);
        CHECK.due("of a landing", Check.of("landing;").round(1), 1);
        // 4 ^ 3 * 3 * 2 = 384, 4 ^ 4 * 2 = 512.
        CHECK.due("of 384", Check.of("landing;cup 0 4;cup 1 4;cup 2 4;cup 3 3;cup 4 2;").round(0), 384);
        CHECK.due("of 512", Check.of("landing;cup 0 4;cup 1 4;cup 2 4;cup 3 4;cup 4 2;").round(0), WallMarbles.NONE);
        // 3 ^ 5 * 2 is the longest one below 500.
        CHECK.due("of 486", Check.of("landing;cup 0 3;cup 1 3;cup 2 3;cup 3 3;cup 4 3;fork 5 5 1;").round(0), 486);
        roundWithALodgedCup();
    }

    // A lodged cup keeps its STAND, so that the fork alone makes the round.
    private static void roundWithALodgedCup() {
        WallMarbles x = Check.of("landing;cup 0 2;fork 1 0 1;");
        x.let(0);
        CHECK.due("round(0)", x.round(0), 4);
        x.lodge(1);
        CHECK.due("round(0), the cup lodged", x.round(0), 2);
    }

    private static void standingsThatCome() {
        CHECK.due("of a landing", Check.of("landing;").standings(), 1);
        CHECK.due("of a fork", Check.of("landing;fork 0 0 3;").standings(), 6);
        CHECK.due("of a cup", Check.of("landing;cup 0 4;").standings(), 4);
        CHECK.due("of a sieve", Check.of("landing;sieve 0 0;").standings(), 1);
        WallMarbles x = Check.of(FORKED);
        CHECK.due("of both sides", x.standings(), 4);
        x.let(1);
        CHECK.due("from NOW", x.standings(), 4);
        x.lodge(4);
        CHECK.due("the cup lodged", x.standings(), 2);
        x.lodge(5);
        CHECK.due("all lodged", x.standings(), 1);
        // Parts that no marble comes to stand as they do.
        CHECK.due("of parts left out", Check.of("landing;fork 0 0 3;landing;").standings(), 1);
        CHECK.due("of 192", Check.of("landing;cup 0 4;cup 1 4;cup 2 4;cup 3 3;").standings(), 192);
        CHECK.due("of 72", Check.of("landing;fork 0 0 3;fork 1 0 3;fork 2 0 3;sieve 3 2;").standings(), 72);
        CHECK.due("of 256", Check.of("landing;cup 0 4;cup 1 4;cup 2 4;cup 3 4;").standings(), 200);
        CHECK.due("no PARTS", new WallMarbles().standings(), WallMarbles.STATE);
    }

    private static void rowsApart() {
        WallMarbles x = Check.of(FORKED);
        CHECK.due("apart(1, 2)", x.apart(1, 2), 0);
        CHECK.due("apart(11, 12)", x.apart(11, 12), 1);
        CHECK.due("apart(121, 122)", x.apart(121, 122), 2);
        CHECK.due("apart of nine", x.apart(111111111, 111111112), 8);
        CHECK.due("alike", x.apart(121, 121), WallMarbles.NONE);
        CHECK.due("of none", x.apart(0, 0), WallMarbles.NONE);
        CHECK.due("not alike many", x.apart(1, 11), WallMarbles.BAD);
        CHECK.due("not alike many", x.apart(0, 1), WallMarbles.BAD);
        // Held by two cups: what COMES is alike, though all stands otherwise then.
        WallMarbles two = Check.of("landing;cup 0 2;cup 0 2;sieve 1 2;");
        CHECK.due("apart(12, 21)", two.apart(12, 21), WallMarbles.NONE);
        CHECK.due("apart(121, 122)", two.apart(121, 122), WallMarbles.NONE);
        CHECK.due("apart(112, 121)", two.apart(112, 121), 1);
        two.let(0);
        CHECK.due("from NOW", two.apart(1, 2), 0);
        two.lodge(3);
        CHECK.due("all stays", two.apart(1, 2), WallMarbles.NONE);
    }

    private static void nothingIsChanged() {
        WallMarbles x = Check.of(FORKED);
        x.let(0);
        x.let(1);
        x.brings(112212122, 8);
        x.shortest(333);
        x.round(1);
        x.standings();
        x.apart(1122, 2211);
        x.called(9);
        x.lodges();
        x.trial(0);
        int[] stands = {0, 0, 0, 1, 1, 0};
        for (int k = 0; k < 6; k++) {
            CHECK.due("part(" + k + ", 4)", x.part(k, 4), stands[k]);
        }
        CHECK.due("now(0)", x.now(0), 2);
        CHECK.due("now(1)", x.now(1), 1);
        CHECK.due("count(3)", x.count(3), 2);
    }
}
