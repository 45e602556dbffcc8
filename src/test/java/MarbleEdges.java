/** Section 2 of "Terms", and promises 6 to 9: marbles let in, undone, lodged. */
final class MarbleEdges extends Edges {
    MarbleEdges(Check check, Doc doc) {
        super(check, doc);
    }

    @Override
    void all() {
        comings();
        stands();
        numbers();
        let();
        undo();
        lodge();
        now();
    }

    private void comings() {
        chapter("Terms");
        says("A MARBLE comes to a PART: LANDING: it is there (one more there).", this::landings);
        says("FORK: it goes to the side to which it leans (LEFT at first)", this::leftAtFirst);
        says("each T MARBLES it leans to the other side, behind the T-th.", this::forksLean);
        says("SIEVE: small ones LEFT, large ones RIGHT.", this::sieves);
        says("CUP: it holds it; the T-th goes on, the others are gone, it is empty.", this::cups);
        says("LODGED (one PART at most, none at first)", this::oneLodgedAtMost);
        says(": what comes to that PART stays there, its STAND does not change.", this::staysThere);
    }

    private void landings() {
        WallMarbles x = Check.of("landing;landing;");
        for (int i = 1; i <= 100; i++) {
            due("let", x.let(i % 2), 1);
            due("one more there", x.part(1, 5), i);
        }
        due("none at the other", x.part(0, 5), 0);
    }

    private void leftAtFirst() {
        for (int t = 1; t <= 3; t++) {
            WallMarbles x = Check.of("landing;landing;fork 1 0 " + t + ";");
            due("the first, T " + t, x.let(1), 1);
        }
    }

    private void forksLean() {
        lets(Check.of("landing;landing;fork 0 1 1;"), "01010", 0, 1, 0, 1, 0);
        lets(Check.of("landing;landing;fork 0 1 2;"), "001100110", 0, 0, 1, 1, 0, 0, 1, 1, 0);
        lets(Check.of("landing;landing;fork 0 1 3;"), "0101010101010", 0, 0, 0, 1, 1, 1, 0, 0, 0, 1, 1, 1, 0);
    }

    private void sieves() {
        lets(Check.of("landing;landing;sieve 0 1;"), "0110", 0, 1, 1, 0);
        lets(Check.of("landing;landing;sieve 1 0;"), "0110", 1, 0, 0, 1);
    }

    private void cups() {
        lets(Check.of("landing;cup 0 2;"), "00000", NONE, 0, NONE, 0, NONE);
        lets(Check.of("landing;cup 0 3;"), "0000000", NONE, NONE, 0, NONE, NONE, 0, NONE);
        lets(Check.of("landing;cup 0 4;"), "000000000", NONE, NONE, NONE, 0, NONE, NONE, NONE, 0, NONE);
        // It is the T-th that goes on, with its own size; of the others none comes to the landings.
        WallMarbles x = Check.of("landing;landing;sieve 0 1;cup 2 3;");
        lets(x, "001110", NONE, NONE, 1, NONE, NONE, 0);
        due("the others are gone", x.now(1), 2);
        due("it is empty", x.part(3, 4), 0);
    }

    private void oneLodgedAtMost() {
        WallMarbles x = Check.of("landing;landing;sieve 0 1;");
        due("none at first", x.now(2), NONE);
        x.lodge(0);
        lets(x, "01", NONE, 1);
        x.lodge(1);
        lets(x, "01", 0, NONE);
        due("the second alone", x.now(2), 1);
        x.lodge(-1);
        lets(x, "01", 0, 1);
    }

    private void staysThere() {
        WallMarbles landing = Check.of("landing;");
        landing.let(0);
        landing.lodge(0);
        due("it stays at a LANDING", landing.let(0), NONE);
        due("it is not one more there", landing.part(0, 5), 1);
        staysAt("landing;landing;fork 0 1 2;", 2, 3, 3);
        staysAt("landing;cup 0 4;", 1, 3, 3);
        staysAt("landing;landing;sieve 0 1;", 2, 1, 0);
        // What is ahead on its way stands otherwise then, what is behind does not.
        WallMarbles x = Check.of("landing;fork 0 0 3;cup 1 2;fork 2 2 3;");
        x.lodge(2);
        lets(x, "0000", NONE, NONE, NONE, NONE);
        due("the FORK ahead", x.part(3, 4), 4);
        due("the CUP", x.part(2, 4), 0);
        due("the FORK behind", x.part(1, 4), 0);
    }

    private void staysAt(String house, int k, int marbles, int stand) {
        WallMarbles x = Check.of(house);
        letMany(x, marbles, 0);
        int at = x.now(1);
        due(house + " STAND", x.part(k, 4), stand);
        x.lodge(k);
        for (int i = 0; i < 7; i++) {
            due(house + " stays", x.let(i % 2), NONE);
            due(house + " STAND stays", x.part(k, 4), stand);
        }
        due(house + " none comes to LANDINGS", x.now(1), at);
        due(house + " nothing is at it", x.part(k, 5), 0);
        due(house + " all were let in", x.now(0), marbles + 7);
    }

    private void stands() {
        says("STAND of a PART: FORK: how many came since it leaned so, and T, if it leans RIGHT", this::standsOfForks);
        says("; CUP: how many it holds", this::standsOfCups);
        says("; else 0.", this::standsOfOthers);
        says("COMES of a MARBLE: the LANDING; NONE: it is held, or stays.", this::whatComes);
    }

    private void standsOfForks() {
        for (int t = 1; t <= 3; t++) {
            WallMarbles x = Check.of("landing;landing;fork 0 1 " + t + ";");
            for (int i = 0; i <= 4 * t; i++) {
                due("T " + t + " behind " + i, x.part(2, 4), i % (2 * t));
                x.let(0);
            }
        }
    }

    private void standsOfCups() {
        for (int t = 2; t <= 4; t++) {
            WallMarbles x = Check.of("landing;cup 0 " + t + ";");
            for (int i = 0; i <= 2 * t; i++) {
                due("T " + t + " behind " + i, x.part(1, 4), i % t);
                x.let(0);
            }
        }
    }

    private void standsOfOthers() {
        WallMarbles x = Check.of("landing;landing;sieve 0 1;");
        for (int i = 0; i < 5; i++) {
            x.let(i % 2);
            due("a LANDING", x.part(0, 4), 0);
            due("a LANDING", x.part(1, 4), 0);
            due("a SIEVE", x.part(2, 4), 0);
        }
    }

    private void whatComes() {
        due("the ninth LANDING", Check.of("landing;".repeat(9)).let(0), 8);
        due("the first LANDING", Check.of("landing;sieve 0 0;").let(0), 0);
        due("it is held", Check.of("landing;cup 0 2;").let(0), NONE);
        WallMarbles x = Check.of("landing;");
        x.lodge(0);
        due("it stays", x.let(0), NONE);
    }

    private void numbers() {
        says("MARBLES let in are numbered (0 .. 99 at most).", this::hundredAtMost);
        says("UNDONE: the latest MARBLE (20 at most are known, older ones are lost)", this::twentyKnown);
        says(": all STANDS, and what is at LANDINGS, are as ahead of it.", this::asAheadOfIt);
    }

    private void hundredAtMost() {
        WallMarbles x = Check.of("landing;cup 0 2;");
        for (int number = 0; number <= 99; number++) {
            due("so many ahead of it", x.now(0), number);
            due("number " + number, x.let(0), number % 2 == 0 ? NONE : 0);
        }
        due("number 100", x.let(0), FULL);
        due("100 were", x.now(0), 100);
    }

    private void twentyKnown() {
        for (int marbles = 0; marbles <= 23; marbles++) {
            WallMarbles x = Check.of("landing;");
            letMany(x, marbles, 0);
            int known = Math.min(marbles, 20);
            due("known of " + marbles, x.count(3), known);
            for (int i = 1; i <= known; i++) {
                due("undo() " + i + " of " + marbles, x.undo(), marbles - i);
            }
            due("undo() beyond the known of " + marbles, x.undo(), STATE);
            due("older ones of " + marbles + " are lost", x.now(0), marbles - known);
        }
        WallMarbles x = Check.of("landing;landing;fork 0 1 3;");
        letMany(x, 40, 0);
        letUndone(x, 20);
        due("no more of 40", x.undo(), STATE);
        letMany(x, 2, 0);
        letUndone(x, 2);
        due("lost ones do not come again", x.undo(), STATE);
        due("20 are left", x.now(0), 20);
    }

    private static void letUndone(WallMarbles x, int marbles) {
        for (int i = 0; i < marbles; i++) {
            x.undo();
        }
    }

    private void asAheadOfIt() {
        WallMarbles x = Check.of(State.HOUSE);
        int[][] ahead = new int[60][];
        for (int i = 0; i < 30; i++) {
            ahead[i] = stand(x);
            x.let(i % 3 == 1 ? 1 : 0);
        }
        for (int i = 29; i >= 10; i--) {
            due("undo()", x.undo(), i);
            int[] now = stand(x);
            for (int j = 0; j < now.length; j++) {
                due("as ahead of " + i + ", place " + j, now[j], ahead[i][j]);
            }
        }
    }

    private static int[] stand(WallMarbles x) {
        int[] all = new int[20];
        for (int k = 0; k < 9; k++) {
            all[k] = x.part(k, 4);
            all[9 + k] = x.part(k, 5);
        }
        all[18] = x.now(1);
        all[19] = x.now(3);
        return all;
    }

    private void let() {
        chapter("Promise 6");
        says("A MARBLE is let in: what COMES. NONE.", this::letIn);
        says("BAD", () -> {
            for (int size : new int[] {-1, 2, LEAST, MOST}) {
                refusedEverywhere("let(" + size + ")", BAD, x -> x.let(size));
            }
        });
        says("STATE: there are no PARTS", () -> {
            refusedWithoutParts("let(0)", x -> x.let(0));
            refusedWithoutParts("let(1)", x -> x.let(1));
        });
        says("FULL: 100 were.", this::letFull);
    }

    private void letIn() {
        WallMarbles x = Check.of("landing;cup 0 2;");
        due("held", x.let(0), NONE);
        due("one was let in", x.now(0), 1);
        due("comes", x.let(1), 0);
        due("two were let in", x.now(0), 2);
    }

    private void letFull() {
        refused("let(0)", FULL, State.FULL, x -> x.let(0));
        refused("let(1)", FULL, State.FULL, x -> x.let(1));
        WallMarbles x = Check.of("landing;");
        letMany(x, 99, 0);
        due("the 100th", x.let(0), 0);
        due("one more", x.let(0), FULL);
        due("undo()", x.undo(), 99);
        due("the 100th again", x.let(0), 0);
        due("one more", x.let(0), FULL);
        // Ones that stay were let in, too.
        WallMarbles y = Check.of("landing;");
        y.lodge(0);
        letMany(y, 100, 0);
        due("100 stay", y.let(0), FULL);
        due("none is there", y.now(1), 0);
    }

    private void undo() {
        chapter("Promise 7");
        says("UNDONE: how many were let in.", this::howManyWere);
        says("STATE: none is known.", () -> {
            refusedWithoutParts("undo()", WallMarbles::undo);
            WallMarbles x = Check.of("landing;");
            due("none was let in", x.undo(), STATE);
            x.let(0);
            due("one is known", x.undo(), 0);
            due("none is known", x.undo(), STATE);
            due("none was let in", x.now(0), 0);
            due("none is there", x.now(1), 0);
        });
    }

    private void howManyWere() {
        WallMarbles x = Check.of("landing;landing;fork 0 1 1;");
        letMany(x, 3, 0);
        due("undo()", x.undo(), 2);
        due("undo()", x.undo(), 1);
        lets(x, "00", 1, 0);
        due("undo()", x.undo(), 2);
        due("count(3)", x.count(3), 2);
        // The LODGED one is none of what is UNDONE; a marble that stayed is undone like others.
        x.lodge(0);
        lets(x, "00", NONE, 1);
        due("undo()", x.undo(), 3);
        due("undo() of one that stayed", x.undo(), 2);
        due("the FORK's STAND", x.part(2, 4), 0);
        due("the LODGED one stays", x.now(2), 0);
        due("at LANDINGS", x.now(1), 2);
        // One that came is taken back, though what it came to is LODGED now.
        due("undo()", x.undo(), 1);
        due("undo()", x.undo(), 0);
        due("at LANDINGS", x.now(1), 0);
    }

    private void lodge() {
        chapter("Promise 8");
        says("A PART is the LODGED one (k = -1: none is): which was (NONE).", this::whichWas);
        says("BAD.", this::lodgeRefused);
    }

    private void whichWas() {
        WallMarbles x = Check.of("landing;".repeat(9));
        due("lodge(-1)", x.lodge(-1), NONE);
        due("lodge(0)", x.lodge(0), NONE);
        due("lodge(8)", x.lodge(8), 0);
        due("lodge(8) again", x.lodge(8), 8);
        due("lodge(-1)", x.lodge(-1), 8);
        due("lodge(-1) again", x.lodge(-1), NONE);
        due("now(2)", x.now(2), NONE);
        due("no PARTS: lodge(-1)", new WallMarbles().lodge(-1), NONE);
        for (int parts = 1; parts <= 9; parts++) {
            WallMarbles y = Check.of("landing;".repeat(parts));
            due("the last of " + parts, y.lodge(parts - 1), NONE);
            due("one more than " + parts, y.lodge(parts), BAD);
            due("it stays", y.now(2), parts - 1);
        }
    }

    private void lodgeRefused() {
        for (int k : new int[] {-2, -9, 9, 10, LEAST, MOST}) {
            refusedEverywhere("lodge(" + k + ")", BAD, x -> x.lodge(k));
        }
        refused("lodge(0)", BAD, State.NEW, x -> x.lodge(0));
        refused("lodge(0)", BAD, State.TYPED, x -> x.lodge(0));
    }

    private void now() {
        chapter("Promise 9");
        says("0 how many were let in", () -> looks(0, 0, 1, 2, 3, 4, 5, 6));
        says("1 at LANDINGS", () -> looks(1, 0, 0, 0, 1, 2, 2, 2));
        says("2 the LODGED one (NONE)", this::lodgedNow);
        says("3 how many CUPS hold.", this::cupsNow);
        says("BAD.", () -> {
            for (int what : new int[] {-1, 4, 5, LEAST, MOST}) {
                refusedEverywhere("now(" + what + ")", BAD, x -> x.now(what));
            }
        });
    }

    // To two CUPS by turns: the third and the fourth marble come.
    private void looks(int what, int... due) {
        WallMarbles x = Check.of("landing;landing;cup 0 2;cup 1 2;fork 2 3 1;");
        for (int i = 0; i < due.length; i++) {
            due("now(" + what + ") behind " + i, x.now(what), due[i]);
            x.let(0);
        }
    }

    private void lodgedNow() {
        WallMarbles x = Check.of("landing;cup 0 2;");
        due("none", x.now(2), NONE);
        x.lodge(0);
        due("the first PART", x.now(2), 0);
        x.lodge(1);
        due("the last PART", x.now(2), 1);
        x.lodge(-1);
        due("none again", x.now(2), NONE);
    }

    private void cupsNow() {
        looks(3, 0, 1, 2, 1, 0, 1, 2);
        WallMarbles x = Check.of("landing;cup 0 4;fork 1 1 3;");
        due("an empty one", x.now(3), 0);
        letMany(x, 3, 0);
        due("one that holds three is one, a FORK is none", x.now(3), 1);
        due("the FORK's STAND", x.part(2, 4), 3);
        WallMarbles eight = Check.of("landing;cup 0 2;cup 1 2;cup 2 2;cup 3 2;cup 4 2;cup 5 2;cup 6 2;");
        letMany(eight, 100, 0);
        // 100 is 1100100 in twos: each CUP holds one of its figures.
        due("CUPS as figures", eight.now(3), 3);
    }
}
