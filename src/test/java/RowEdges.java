/** Section 3 of "Terms" up to APART, and promises 10 to 14: rows of marbles. */
final class RowEdges extends Edges {
    /** Small ones come to 0 and 1 by turns, of large ones each second to 2. */
    private static final String FORKED = "landing;landing;landing;fork 0 1 1;cup 2 2;sieve 3 4;";
    private static final int[] NO_ROWS = {
        -1, -2, -11, 3, 9, 10, 20, 13, 31, 101, 111111110, 311111111, 1000000000, 1111111111, 1222222222, 2111111111,
        LEAST, MOST,
    };

    RowEdges(Check check, Doc doc) {
        super(check, doc);
    }

    @Override
    void all() {
        rows();
        brings();
        shortest();
        round();
        standings();
        apart();
    }

    private void rows() {
        chapter("Terms");
        says("(From NOW; nothing is changed.)", this::fromNow);
        says("ROW: figures 1 (small), 2 (large), the first one the highest", this::figures);
        says(", 9 at most (0: none).", this::nineFigures);
    }

    private void fromNow() {
        WallMarbles x = Check.of(FORKED);
        lets(x, "01", 0, NONE);
        due("brings(1, 0)", x.brings(1, 0), 1);
        due("brings(2, 0)", x.brings(2, 0), 2);
        due("shortest(2)", x.shortest(2), 1);
        due("shortest(1)", x.shortest(1), NONE);
        due("apart(1, 2)", x.apart(1, 2), 0);
        asksOnly("brings", y -> y.brings(112212121, 8));
        asksOnly("shortest", y -> y.shortest(12));
        asksOnly("shortest of none", y -> y.shortest(1111));
        asksOnly("round(0)", y -> y.round(0));
        asksOnly("round(1)", y -> y.round(1));
        asksOnly("standings", WallMarbles::standings);
        asksOnly("apart", y -> y.apart(121212121, 212121211));
        asksOnly("lodges", WallMarbles::lodges);
        asksOnly("trial(0)", y -> y.trial(0));
        asksOnly("trial(1)", y -> y.trial(1));
        asksOnly("called(9)", y -> y.called(9));
    }

    private void figures() {
        WallMarbles x = Check.of("landing;landing;sieve 0 1;");
        due("1 is small", x.brings(1, 0), 0);
        due("2 is large", x.brings(2, 0), 1);
        due("the highest is the first", x.brings(12, 0), 0);
        due("the lowest is the last", x.brings(12, 1), 1);
        for (int place = 1; place <= 100000000; place *= 10) {
            for (int figure = 0; figure <= 9; figure++) {
                int row = 111111111 + (figure - 1) * place;
                // Without its highest figure it is a ROW of eight.
                boolean none = figure > 2 || figure == 0 && place < 100000000;
                int got = x.brings(row, 0);
                due("brings(" + row + ", 0)", got, none ? BAD : figure == 2 && place == 100000000 ? 1 : 0);
                due("apart(" + row + ", itself)", x.apart(row, row), none ? BAD : NONE);
            }
        }
    }

    private void nineFigures() {
        WallMarbles x = Check.of("landing;landing;sieve 0 1;");
        due("nine", x.brings(111111112, 8), 1);
        due("nine", x.brings(222222221, 8), 0);
        due("nine", x.brings(222222222, 0), 1);
        due("ten", x.brings(1111111111, 0), BAD);
        due("ten", x.brings(1111111112, 9), BAD);
        due("ten", x.brings(2111111111, 0), BAD);
        due("ten, a row of nine behind 1", x.apart(1222222222, 1222222222), BAD);
        due("none", x.brings(0, 0), -5);
        due("none", x.apart(0, 0), NONE);
    }

    private void brings() {
        chapter("Terms");
        says("BRINGS: what COMES of the i-th of a ROW.", this::iThOfARow);
        chapter("Promise 10");
        says("BRINGS; NONE;", () -> {
            WallMarbles x = Check.of(FORKED);
            due("it comes", x.brings(22, 1), 2);
            due("it is held", x.brings(22, 0), NONE);
            x.lodge(0);
            due("it stays", x.brings(1, 0), NONE);
        });
        says("-5: it is not so long.", this::notSoLong);
        says("BAD (a figure is none, i below 0)", this::bringsRefused);
        says("STATE: no PARTS.", () -> {
            refusedWithoutParts("brings(1, 0)", x -> x.brings(1, 0));
            refusedWithoutParts("brings(222222222, 8)", x -> x.brings(222222222, 8));
            refusedWithoutParts("brings(0, 0)", x -> x.brings(0, 0));
            refusedWithoutParts("brings(1, 1)", x -> x.brings(1, 1));
        });
    }

    private void iThOfARow() {
        WallMarbles x = Check.of(FORKED);
        int[] comes = {0, NONE, 1, 2, NONE, 0, 2, 1, 0};
        for (int i = 0; i < 9; i++) {
            due("brings(121221211, " + i + ")", x.brings(121221211, i), comes[i]);
        }
    }

    private void notSoLong() {
        WallMarbles x = Check.of("landing;");
        int row = 0;
        for (int length = 0; length <= 9; length++) {
            due("the first behind the row " + row, x.brings(row, length), -5);
            if (length > 0) {
                due("the last of the row " + row, x.brings(row, length - 1), 0);
            }
            row = length < 9 ? row * 10 + 1 + length % 2 : row;
        }
        due("far behind", x.brings(1, 9), -5);
        due("farther behind", x.brings(1, MOST), -5);
        due("of none", x.brings(0, MOST), -5);
        refused("brings(12, 2)", -5, State.STANDING, y -> y.brings(12, 2));
    }

    private void bringsRefused() {
        for (int row : NO_ROWS) {
            refusedEverywhere("brings(" + row + ", 0)", BAD, x -> x.brings(row, 0));
        }
        refusedEverywhere("brings(1, -1)", BAD, x -> x.brings(1, -1));
        refusedEverywhere("brings(0, -1)", BAD, x -> x.brings(0, -1));
        refusedEverywhere("brings(1, -5)", BAD, x -> x.brings(1, -5));
        refusedEverywhere("brings(1, least)", BAD, x -> x.brings(1, LEAST));
        // A figure that is none is one wherever i points, or whether it points beyond.
        refusedEverywhere("brings(13, 0)", BAD, x -> x.brings(13, 0));
        refusedEverywhere("brings(31, 1)", BAD, x -> x.brings(31, 1));
        refusedEverywhere("brings(3, 5)", BAD, x -> x.brings(3, 5));
    }

    private void shortest() {
        chapter("Terms");
        says("SHORTEST for a told row of LANDINGS (figures: PART and 1, 1 .. 9, 4 at most)", this::toldLandings);
        says(": the shortest ROW of 9 MARBLES at most", this::nineMarbles);
        says("by which just these COME, in this order", this::justThese);
        says("(held ones between, none behind)", this::heldBetween);
        says(", of several the first (small ahead of large)", this::firstOfSeveral);
        says("; NONE.", this::noSuchRow);
        says("(0: none, a ROW of none.)", this::rowOfNone);
        chapter("Promise 11");
        says("SHORTEST, as a ROW (0: none is needed);", this::rowOfNone);
        says("NONE.", this::noSuchRow);
        says("BAD (a figure is no LANDING)", this::shortestRefused);
        says("STATE: no PARTS.", () -> {
            refusedWithoutParts("shortest(0)", x -> x.shortest(0));
            refused("BAD ahead of STATE: shortest(1)", BAD, State.NEW, x -> x.shortest(1));
        });
    }

    private void toldLandings() {
        WallMarbles nine = Check.of("landing;".repeat(9));
        due("9 is PART 8", nine.shortest(9), 1);
        due("8 is PART 7", nine.shortest(8), NONE);
        due("1 is PART 0", nine.shortest(1), NONE);
        due("four", nine.shortest(9999), 1111);
        due("five", nine.shortest(99999), BAD);
        due("ten", nine.shortest(1999999999), BAD);
        WallMarbles one = Check.of("landing;");
        due("1 is PART 0", one.shortest(1), 1);
        due("four", one.shortest(1111), 1111);
        due("five", one.shortest(11111), BAD);
        WallMarbles sieve = Check.of("landing;landing;sieve 0 1;");
        due("the first is the highest", sieve.shortest(1222), 1222);
        due("the first is the highest", sieve.shortest(2111), 2111);
    }

    private void nineMarbles() {
        // Twelve are needed from the beginning, ten behind two, nine behind three.
        WallMarbles x = Check.of("landing;cup 0 3;cup 1 4;");
        due("twelve", x.shortest(1), NONE);
        letMany(x, 2, 0);
        due("ten", x.shortest(1), NONE);
        x.let(0);
        due("nine", x.shortest(1), 111111111);
        x.let(0);
        due("eight", x.shortest(1), 11111111);
        letMany(x, 7, 0);
        due("one", x.shortest(1), 1);
        WallMarbles nine = Check.of("landing;landing;sieve 0 1;cup 2 3;cup 3 3;");
        due("nine, the last one large", nine.shortest(2), 111111112);
        due("eighteen", nine.shortest(12), NONE);
    }

    private void justThese() {
        WallMarbles fork = Check.of("landing;landing;fork 0 1 1;");
        due("in this order", fork.shortest(1212), 1111);
        due("another order", fork.shortest(21), NONE);
        due("one between that is not told", fork.shortest(11), NONE);
        due("one ahead that is not told", fork.shortest(2), NONE);
        WallMarbles x = Check.of(FORKED);
        due("of both", x.shortest(132), 1221);
        due("of both, another order", x.shortest(312), 2211);
    }

    private void heldBetween() {
        WallMarbles x = Check.of(FORKED);
        due("one held ahead of it", x.shortest(3), 22);
        due("one held between", x.shortest(13), 122);
        due("none behind", x.shortest(1), 1);
        due("four with four held", x.shortest(3333), 22222222);
        // One that stays is held back like those in a CUP.
        x.lodge(0);
        due("one stays ahead of it", x.shortest(2), 11);
        due("two stay", x.shortest(22), 1111);
    }

    private void firstOfSeveral() {
        WallMarbles x = Check.of("landing;sieve 0 0;");
        due("small ahead of large", x.shortest(1111), 1111);
        WallMarbles cup = Check.of("landing;landing;sieve 0 1;cup 2 3;");
        due("held ones are small", cup.shortest(2), 112);
        due("held ones are small", cup.shortest(212), 112111112);
        // Of fewer marbles goes ahead, though its first is large.
        due("the shortest first", Check.of("landing;cup 0 2;sieve 1 0;").shortest(1), 2);
        // Large at first can be needed: a small one would come elsewhere.
        due("large where it must be", Check.of("landing;landing;sieve 0 1;").shortest(21), 21);
    }

    private void noSuchRow() {
        due("a LANDING that is not come to", Check.of("landing;landing;").shortest(1), NONE);
        WallMarbles x = Check.of(FORKED);
        x.lodge(5);
        due("all stay", x.shortest(1), NONE);
        x.lodge(2);
        due("all stay there", x.shortest(3), NONE);
        due("others come", x.shortest(1), 1);
    }

    private void rowOfNone() {
        WallMarbles x = Check.of(FORKED);
        due("at the beginning", x.shortest(0), 0);
        letMany(x, 100, 1);
        due("behind 100", x.shortest(0), 0);
        x.lodge(5);
        due("all stay", x.shortest(0), 0);
    }

    private void shortestRefused() {
        for (int landings : new int[] {-1, -12, 10, 20, 101, 1001, 110, 11111, 12121, 1000000001, LEAST, MOST}) {
            refusedEverywhere("shortest(" + landings + ")", BAD, x -> x.shortest(landings));
        }
        // PARTS 2 to 5, 7 and 8 are no LANDINGS.
        for (int landings : new int[] {3, 4, 5, 6, 8, 9, 13, 31, 1113, 3111, 1311}) {
            refusedEverywhere("shortest(" + landings + ")", BAD, x -> x.shortest(landings));
        }
        WallMarbles x = Check.of("landing;landing;");
        due("the last PART", x.shortest(2), 1);
        due("there is no such PART", x.shortest(3), BAD);
        due("there is no such PART", x.shortest(223), BAD);
    }

    private void round() {
        chapter("Terms");
        says("ROUND for a size: how many MARBLES of that size (1 .. 500)", this::rounds);
        says(", one behind another, till all STANDS are as now; NONE.", this::tillAllAreAsNow);
        chapter("Promise 12");
        says("ROUND; NONE.", this::longRounds);
        says("BAD", () -> {
            for (int size : new int[] {-1, 2, LEAST, MOST}) {
                refusedEverywhere("round(" + size + ")", BAD, x -> x.round(size));
            }
        });
        says("STATE: no PARTS.", () -> {
            refusedWithoutParts("round(0)", x -> x.round(0));
            refusedWithoutParts("round(1)", x -> x.round(1));
        });
    }

    private void rounds() {
        due("one at least", Check.of("landing;").round(0), 1);
        due("one at least", Check.of("landing;sieve 0 0;").round(1), 1);
        for (int t = 1; t <= 3; t++) {
            due("a FORK of " + t, Check.of("landing;fork 0 0 " + t + ";").round(0), 2 * t);
        }
        for (int t = 2; t <= 4; t++) {
            due("a CUP of " + t, Check.of("landing;cup 0 " + t + ";").round(1), t);
        }
        WallMarbles sizes = Check.of("landing;fork 0 0 3;cup 0 4;sieve 1 2;");
        due("of small ones", sizes.round(0), 6);
        due("of large ones", sizes.round(1), 4);
    }

    private void tillAllAreAsNow() {
        WallMarbles x = Check.of("landing;cup 0 3;fork 1 0 1;");
        for (int i = 0; i < 7; i++) {
            due("from the standing behind " + i, x.round(0), 6);
            x.let(0);
        }
        x.lodge(1);
        due("the CUP's STAND stays", x.round(0), 2);
        x.lodge(2);
        due("all stay", x.round(0), 1);
    }

    // Rounds have no factor but 2 and 3: 486 is the last below 500, 512 the first above.
    private void longRounds() {
        String threes = "landing;cup 0 3;cup 1 3;cup 2 3;cup 3 3;cup 4 3;";
        due("of 486", Check.of(threes + "fork 5 5 1;").round(0), 486);
        due("of 486", Check.of(threes + "cup 5 2;").round(1), 486);
        due("of 512", Check.of("landing;cup 0 4;cup 1 4;cup 2 4;cup 3 4;cup 4 2;").round(0), NONE);
        due("of 729", Check.of(threes + "cup 5 3;").round(0), NONE);
    }

    private void standings() {
        chapter("Terms");
        says("STANDINGS: how many STANDINGS of the house can come by whatever MARBLES (this one, too)", this::whatCanCome);
        says(": 200 at most (200: so many or more).", this::twoHundredAtMost);
        chapter("Promise 13");
        says("STANDINGS.", () -> due("of nine PARTS", Check.of(
            "landing;fork 0 0 3;fork 1 1 3;fork 2 2 3;fork 3 3 3;fork 4 4 3;fork 5 5 3;fork 6 6 3;fork 7 7 3;")
            .standings(), 6));
        says("STATE: no PARTS.", () -> refusedWithoutParts("standings()", WallMarbles::standings));
    }

    private void whatCanCome() {
        due("this one alone", Check.of("landing;").standings(), 1);
        due("a FORK", Check.of("landing;fork 0 0 3;").standings(), 6);
        due("a CUP", Check.of("landing;cup 0 2;").standings(), 2);
        // By small ones alone 2 would come, by large ones alone 3.
        WallMarbles x = Check.of("landing;cup 0 2;cup 0 3;sieve 1 2;");
        due("by both sizes", x.standings(), 6);
        x.let(1);
        due("from another one", x.standings(), 6);
        x.lodge(2);
        due("a lodged CUP keeps its STAND", x.standings(), 2);
        x.lodge(3);
        due("all stay", x.standings(), 1);
        due("PARTS that are not come to", Check.of("landing;cup 0 4;landing;").standings(), 1);
        fromThisOne();
    }

    // Large ones tip FORKS 1 and 4 at once while 3 and 6 lean alike, and one by one while these do not.
    private void fromThisOne() {
        WallMarbles x = Check.of("landing;fork 0 0 1;sieve 0 1;fork 2 0 1;fork 3 3 1;sieve 3 4;fork 5 3 1;");
        due("while they lean alike", x.standings(), 4);
        x.lodge(3);
        x.let(0);
        x.lodge(-1);
        due("6 leans RIGHT", x.part(6, 4), 1);
        due("3 leans LEFT", x.part(3, 4), 0);
        due("from this one, not from the beginning", x.standings(), 8);
    }

    // They have no factor but 2 and 3: 192 is the last below 200, 216 the first above.
    private void twoHundredAtMost() {
        due("of 162", Check.of("landing;cup 0 3;cup 1 3;cup 2 3;cup 3 3;cup 4 2;").standings(), 162);
        due("of 192", Check.of("landing;cup 0 4;cup 1 4;cup 2 4;cup 3 3;").standings(), 192);
        due("of 192, both sizes", Check.of("landing;cup 0 4;cup 1 4;cup 0 4;cup 3 3;sieve 2 4;").standings(), 192);
        due("of 216", Check.of("landing;cup 0 3;cup 1 3;cup 2 3;cup 3 4;cup 4 2;").standings(), 200);
        due("of 256", Check.of("landing;cup 0 4;cup 1 4;cup 2 4;cup 3 4;").standings(), 200);
        due("of 65536", Check.of(
            "landing;cup 0 4;cup 1 4;cup 2 4;cup 3 4;cup 4 4;cup 5 4;cup 6 4;cup 7 4;").standings(), 200);
    }

    private void apart() {
        chapter("Terms");
        says("APART: the first place (from 0) of two ROWS of alike many at which what COMES is not alike; NONE.",
            this::firstPlace);
        says("(BAD: not alike many.)", this::notAlikeMany);
        chapter("Promise 14");
        says("APART; NONE.", this::alike);
        says("BAD", () -> {
            for (int row : NO_ROWS) {
                refusedEverywhere("apart(" + row + ", 1)", BAD, x -> x.apart(row, 1));
                refusedEverywhere("apart(2, " + row + ")", BAD, x -> x.apart(2, row));
                refusedEverywhere("apart(" + row + ", itself)", BAD, x -> x.apart(row, row));
            }
        });
        says("STATE: no PARTS.", () -> {
            refusedWithoutParts("apart(1, 2)", x -> x.apart(1, 2));
            refusedWithoutParts("apart(0, 0)", x -> x.apart(0, 0));
        });
    }

    private void firstPlace() {
        WallMarbles x = Check.of("landing;landing;sieve 0 1;");
        due("the first place", x.apart(1, 2), 0);
        due("the first of several", x.apart(1212, 1121), 1);
        due("the last of nine", x.apart(111111111, 111111112), 8);
        due("the last but one of nine", x.apart(222222222, 222222212), 7);
        due("the first of nine", x.apart(211111111, 111111111), 0);
    }

    private void alike() {
        WallMarbles x = Check.of("landing;landing;sieve 0 1;");
        due("a ROW and itself", x.apart(121212121, 121212121), NONE);
        due("two of none", x.apart(0, 0), NONE);
        // What comes is alike, though all stands otherwise behind it.
        WallMarbles held = Check.of("landing;cup 0 2;cup 0 2;sieve 1 2;");
        due("two held ones", held.apart(12, 21), NONE);
        due("two held ones, then one that comes", held.apart(121, 122), NONE);
        due("one comes, one is held", held.apart(11, 12), 1);
        held.let(0);
        due("from NOW", held.apart(1, 2), 0);
        held.lodge(3);
        due("all stay", held.apart(111111111, 222222222), NONE);
    }

    private void notAlikeMany() {
        refusedEverywhere("apart(0, 1)", BAD, x -> x.apart(0, 1));
        refusedEverywhere("apart(1, 0)", BAD, x -> x.apart(1, 0));
        refusedEverywhere("apart(1, 11)", BAD, x -> x.apart(1, 11));
        refusedEverywhere("apart(12, 1)", BAD, x -> x.apart(12, 1));
        refusedEverywhere("apart(111111111, 11111111)", BAD, x -> x.apart(111111111, 11111111));
        refusedEverywhere("apart(11111111, 111111111)", BAD, x -> x.apart(11111111, 111111111));
    }
}
