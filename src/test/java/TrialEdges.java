/** Section 3 of "Terms" from TRIED on, and promises 15 to 19: lodged ones, calls. */
final class TrialEdges extends Edges {
    private static final String NINE = "landing;".repeat(9);
    private static final String SIEVES = "landing;landing;sieve 0 1;sieve 2 2;";

    TrialEdges(Check check, Doc doc) {
        super(check, doc);
    }

    @Override
    void all() {
        tried();
        forget();
        lodges();
        trial();
        called();
    }

    private void tried() {
        chapter("Terms");
        says("TRIED (9 at most)", this::nineTried);
        says(": a MARBLE of a size was let in at the beginning (all STANDS 0, one TRIED behind another)", this::fromTheBeginning);
        says(", and so COMES (a LANDING, NONE).", this::soComes);
        chapter("Promise 15");
        says("TRIED (comes a LANDING, or NONE)", this::triedComes);
        says(": how many there are.", this::nineTried);
        says("BAD", this::triedRefused);
        says("FULL.", () -> {
            refused("tried(0, NONE)", FULL, State.FULL, x -> x.tried(0, NONE));
            refused("tried(1, 0)", FULL, State.FULL, x -> x.tried(1, 0));
            refused("BAD ahead of FULL", BAD, State.FULL, x -> x.tried(2, 0));
            refused("BAD ahead of FULL", BAD, State.FULL, x -> x.tried(0, 2));
        });
    }

    private void nineTried() {
        WallMarbles x = Check.of("landing;cup 0 2;");
        for (int i = 1; i <= 9; i++) {
            due("tried", x.tried(i % 2, i % 2 == 0 ? 0 : NONE), i);
            due("count(2)", x.count(2), i);
        }
        due("a tenth", x.tried(0, NONE), FULL);
        due("nine are there", x.count(2), 9);
        due("forget()", x.forget(), 9);
        due("one again", x.tried(0, 0), 1);
        theNinthCounts();
    }

    // Nine marbles fill both CUPS: only by the ninth it is seen that none is LODGED.
    private void theNinthCounts() {
        WallMarbles x = Check.of("landing;cup 0 3;cup 1 3;");
        for (int i = 0; i < 8; i++) {
            x.tried(0, NONE);
        }
        due("LODGES by eight", x.lodges(), 512 + 7);
        due("the ninth", x.tried(0, 0), 9);
        due("LODGES by nine", x.lodges(), 512);
        due("a tenth", x.tried(0, 0), FULL);
        due("LODGES behind it", x.lodges(), 512);
    }

    private void fromTheBeginning() {
        WallMarbles x = Check.of("landing;landing;fork 0 1 2;");
        letMany(x, 3, 0);
        x.lodge(2);
        x.tried(0, 0);
        due("all STANDS 0, whatever is now", x.lodges(), 512 + 2);
        x.tried(1, 0);
        due("the second of LEFT", x.lodges(), 512 + 2);
        x.tried(0, 1);
        due("one behind another", x.lodges(), 512);
        x.tried(0, 1);
        x.tried(0, 0);
        due("round to LEFT", x.lodges(), 512);
        due("nothing was let in by it", x.now(0), 3);
    }

    private void soComes() {
        WallMarbles x = Check.of(SIEVES);
        x.tried(1, NONE);
        due("none came", x.lodges(), 2 + 4 + 8);
        x.tried(0, 0);
        due("one came", x.lodges(), 2);
        x.tried(0, 1);
        due("one came where small ones do not", x.lodges(), 0);
    }

    private void triedComes() {
        WallMarbles x = Check.of(NINE);
        due("the first LANDING", x.tried(0, 0), 1);
        due("the last LANDING", x.tried(0, 8), 2);
        due("NONE", x.tried(0, NONE), 3);
        due("one beyond the last", x.tried(0, 9), BAD);
        due("one below the first", x.tried(0, -1), BAD);
        due("no PARTS: NONE", new WallMarbles().tried(1, NONE), 1);
        due("no PARTS: a LANDING", new WallMarbles().tried(1, 0), BAD);
    }

    private void triedRefused() {
        for (int size : new int[] {-1, 2, LEAST, MOST}) {
            refusedEverywhere("tried(" + size + ", NONE)", BAD, x -> x.tried(size, NONE));
            refusedEverywhere("tried(" + size + ", 0)", BAD, x -> x.tried(size, 0));
        }
        // A FORK, a CUP, a SIEVE; no PARTS; what is near to NONE.
        for (int comes : new int[] {2, 3, 4, 9, 10, -1, -2, -5, -8, -10, LEAST, MOST}) {
            refusedEverywhere("tried(0, " + comes + ")", BAD, x -> x.tried(0, comes));
        }
    }

    private void forget() {
        chapter("Promise 16");
        says("Nothing was TRIED: how many there were.", () -> {
            WallMarbles x = Check.of("landing;");
            due("of none", x.forget(), 0);
            for (int i = 0; i < 9; i++) {
                x.tried(0, NONE);
            }
            due("LODGES by nine", x.lodges(), 1);
            due("of nine", x.forget(), 9);
            due("count(2)", x.count(2), 0);
            due("LODGES by none", x.lodges(), 513);
            due("again", x.forget(), 0);
            due("the first again", x.tried(0, 0), 1);
            due("LODGES by that", x.lodges(), 512);
        });
    }

    private void lodges() {
        chapter("Terms");
        says("LODGES: PARTS (bits) at which one can be LODGED then", this::bits);
        says("(bit 9: none is)", this::bitNine);
        says("so that all TRIED come so.", this::allComeSo);
        chapter("Promise 17");
        says("LODGES, as bits.", this::bits);
        says("STATE: no PARTS.", () -> refusedWithoutParts("lodges()", WallMarbles::lodges));
    }

    private void bits() {
        for (int parts = 1; parts <= 9; parts++) {
            due("nothing TRIED, PARTS " + parts, Check.of("landing;".repeat(parts)).lodges(), 512 + (1 << parts) - 1);
        }
        WallMarbles x = Check.of(NINE);
        x.tried(0, NONE);
        due("the last PART alone", x.lodges(), 256);
        WallMarbles y = Check.of("landing;sieve 0 0;");
        y.tried(0, NONE);
        due("all PARTS on the way", y.lodges(), 3);
    }

    private void bitNine() {
        WallMarbles x = Check.of(NINE);
        x.tried(0, 8);
        due("not at the last", x.lodges(), 512 + 255);
        WallMarbles y = Check.of("landing;");
        y.tried(0, 0);
        due("at none", y.lodges(), 512);
        // The one LODGED now is not asked for.
        y.lodge(0);
        due("at none, whatever is LODGED now", y.lodges(), 512);
    }

    private void allComeSo() {
        WallMarbles x = Check.of("landing;landing;fork 0 1 1;sieve 2 1;");
        x.tried(0, NONE);
        due("small ones stay", x.lodges(), 1 + 4 + 8);
        // A LODGED fork never leans on; behind a LODGED landing it does.
        x.tried(0, 1);
        due("the second comes", x.lodges(), 1);
        x.tried(1, 1);
        due("a large one comes", x.lodges(), 1);
        x.tried(1, NONE);
        due("it can't be", x.lodges(), 0);
    }

    private void trial() {
        chapter("Terms");
        says("TRIAL: the size of the next MARBLE to be tried by which the most of these left at worst are the fewest",
            this::fewestAtWorst);
        says(", small if alike", this::smallIfAlike);
        says(": the size, how many then; NONE: none is left.", this::noneIsLeft);
        chapter("Promise 18");
        says("TRIAL: the size (what = 0), how many are left at worst (1); NONE.", this::worstOfMany);
        says("BAD", () -> {
            for (int what : new int[] {-1, 2, LEAST, MOST}) {
                refusedEverywhere("trial(" + what + ")", BAD, x -> x.trial(what));
            }
        });
        says("STATE: no PARTS.", () -> {
            refusedWithoutParts("trial(0)", x -> x.trial(0));
            refusedWithoutParts("trial(1)", x -> x.trial(1));
        });
    }

    private void fewestAtWorst() {
        // Small: all of 0, 1, 2, 3 and none are kept at the CUP. Large: 0 and 3 stay, 1, 2 and none come.
        WallMarbles x = Check.of("landing;cup 0 2;cup 0 2;sieve 1 0;");
        due("large parts them", x.trial(0), 1);
        due("three at worst", x.trial(1), 3);
        x.tried(1, NONE);
        due("LODGES", x.lodges(), 1 + 8);
        due("neither parts two that stay", x.trial(0), 0);
        due("two at worst", x.trial(1), 2);
        // The other side of it: small parts them, large does not.
        WallMarbles y = Check.of("landing;cup 0 2;cup 0 2;sieve 0 1;");
        due("small parts them", y.trial(0), 0);
        due("three at worst", y.trial(1), 3);
    }

    private void smallIfAlike() {
        WallMarbles x = Check.of(SIEVES);
        due("three by each", x.trial(0), 0);
        due("three", x.trial(1), 3);
        x.tried(0, 0);
        due("one by large, two by small", x.trial(0), 1);
        due("one", x.trial(1), 1);
        x.tried(1, 1);
        due("one by each", x.trial(0), 0);
        due("one", x.trial(1), 1);
    }

    private void noneIsLeft() {
        WallMarbles x = Check.of("landing;");
        due("two are left", x.trial(1), 1);
        x.tried(0, 0);
        due("one is left", x.trial(0), 0);
        due("one is left", x.trial(1), 1);
        x.tried(0, NONE);
        due("none is left: the size", x.trial(0), NONE);
        due("none is left: how many", x.trial(1), NONE);
    }

    private void worstOfMany() {
        WallMarbles nine = Check.of(NINE);
        due("by all PARTS but the last", nine.trial(1), 9);
        // A CUP at the last PART holds the first marble, wherever one is LODGED.
        WallMarbles ten = Check.of("landing;landing;landing;landing;landing;landing;landing;landing;cup 7 2;");
        due("all ten", ten.trial(1), 10);
        due("small", ten.trial(0), 0);
        ten.tried(0, NONE);
        due("all but two come then", ten.trial(1), 8);
        for (int i = 1; i < 9; i++) {
            ten.tried(0, NONE);
        }
        due("nine TRIED: the next one is asked for all the same", ten.trial(1), 2);
    }

    private void called() {
        chapter("Terms");
        says("CALLED by n (0 .. 9)", this::zeroToNine);
        says(": how many ROWS of n MARBLES from the beginning (all STANDS 0, with the LODGED one) leave all STANDS as now.",
            this::rowsToNow);
        chapter("Promise 19");
        says("CALLED.", this::zeroToNine);
        says("BAD", () -> {
            for (int n : new int[] {-1, 10, 11, LEAST, MOST}) {
                refusedEverywhere("called(" + n + ")", BAD, x -> x.called(n));
            }
        });
        says("STATE: no PARTS.", () -> {
            refusedWithoutParts("called(0)", x -> x.called(0));
            refusedWithoutParts("called(9)", x -> x.called(9));
        });
    }

    private void zeroToNine() {
        WallMarbles x = Check.of("landing;");
        for (int n = 0; n <= 9; n++) {
            due("called(" + n + ")", x.called(n), 1 << n);
        }
        due("called(10)", x.called(10), BAD);
        due("called(-1)", x.called(-1), BAD);
    }

    private void rowsToNow() {
        // A FORK of 6 standings by small ones; large ones go by.
        WallMarbles x = Check.of("landing;fork 0 0 3;sieve 1 0;");
        due("of none", x.called(0), 1);
        due("three large ones", x.called(3), 1);
        due("six small ones, or six large ones", x.called(6), 2);
        // None or six of nine: 1 and 84.
        due("none or six of nine", x.called(9), 85);
        letMany(x, 8, 0);
        due("of none", x.called(0), 0);
        due("of one", x.called(1), 0);
        due("two small ones", x.called(2), 1);
        due("two of three", x.called(3), 3);
        // Two or eight of nine: 36 and 9.
        due("two or eight of nine", x.called(9), 45);
        // With the LODGED one from the beginning on, whenever it came.
        x.lodge(1);
        due("the FORK can't lean so", x.called(9), 0);
        letUndone(x);
        due("it stands as at the beginning", x.called(9), 512);
        x.lodge(0);
        due("a LODGED landing changes no STAND", x.called(9), 85);
    }

    private static void letUndone(WallMarbles x) {
        for (int i = 0; i < 8; i++) {
            x.undo();
        }
    }
}
