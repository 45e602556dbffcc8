/** Section 4 of "Terms", and promises 20 to 24: kinds, images, counts, the trace. */
final class KindEdges extends Edges {
    private static final String HOUSE = "landing;landing;fork 0 1 3;cup 2 2;sieve 3 2;";
    private static final int PIPE = 0, SLOW = 1, LEAKING = 2, JOINED = 3, OLD = 4, WIDE = 5;

    KindEdges(Check check, Doc doc) {
        super(check, doc);
    }

    @Override
    void all() {
        kinds();
        marks();
        images();
        refusals();
        mark();
        keep();
        back();
        count();
        trace();
    }

    // Seven marbles: STANDS 0 0 5 1 0, three at PART 0, two at PART 1.
    private static WallMarbles behindSeven() {
        WallMarbles x = Check.of(HOUSE);
        letMany(x, 4, 1);
        letMany(x, 3, 0);
        return x;
    }

    private void kinds() {
        chapter("Terms");
        says("KINDS of PARTS are over one another: 0 PIPE;", () -> traces(PIPE, 1));
        says("1 SLOW, 2 LEAKING, 5 WIDE (each under PIPE)", () -> {
            traces(SLOW, 11);
            traces(LEAKING, 101);
            traces(WIDE, 100001);
        });
        says("3 JOINED (under SLOW)", () -> traces(JOINED, 1011));
        says("4 OLD (under LEAKING)", () -> traces(OLD, 10101));
        says("MARK of a PART as if of a KIND", this::everySort);
        says("(numbers in brackets come to THE TRACE as often as mark() asks that body; \"up\" is what the KIND above does)",
            this::asOftenAsAsked);
    }

    private void traces(int kind, int due) {
        WallMarbles x = behindSeven();
        due("THE TRACE at first", x.trace(), 0);
        x.mark(kind, 2);
        due("THE TRACE of " + kind, x.trace(), due);
        x.mark(kind, 4);
        due("THE TRACE of two", x.trace(), 2L * due);
    }

    private void everySort() {
        WallMarbles x = behindSeven();
        for (int kind = PIPE; kind <= WIDE; kind++) {
            for (int k = 0; k < 5; k++) {
                due("mark(" + kind + ", " + k + ") is one", x.mark(kind, k) == NO ? 0 : 1, 1);
            }
        }
    }

    private void asOftenAsAsked() {
        WallMarbles x = behindSeven();
        for (int i = 0; i < 12; i++) {
            x.mark(JOINED, 2);
        }
        due("twelve times three bodies", x.trace(), 12132);
        // Only mark() asks a body.
        x.part(2, 4);
        x.let(0);
        x.now(0);
        due("nothing more", x.trace(), 12132);
    }

    private void marks() {
        says("PIPE its STAND (1).", () -> marked(PIPE, 0, 0, 5, 1, 0));
        says("SLOW up, and T (0, if it has none) (10).", () -> marked(SLOW, 0, 0, 8, 3, 0));
        says("LEAKING up less its number (100).", () -> {
            marked(LEAKING, 0, -1, 3, -2, -4);
            due("the ninth PART", Check.of("landing;".repeat(9)).mark(LEAKING, 8), -8);
        });
        says("JOINED up times 2 (1000).", () -> marked(JOINED, 0, 0, 16, 6, 0));
        says("OLD up, and how many MARBLES were let in (10000).", () -> {
            marked(OLD, 7, 6, 10, 5, 3);
            WallMarbles x = Check.of("landing;");
            due("none was let in", x.mark(OLD, 0), 0);
            letMany(x, 101, 0);
            due("100 were let in", x.mark(OLD, 0), 100);
            x.undo();
            due("99 were let in", x.mark(OLD, 0), 99);
        });
        says("WIDE up, and what is at it (LANDINGS; else 0) (100000).", () -> {
            marked(WIDE, 3, 2, 5, 1, 0);
            WallMarbles x = Check.of("landing;");
            letMany(x, 100, 0);
            due("100 are at it", x.mark(WIDE, 0), 100);
        });
    }

    private void marked(int kind, int... due) {
        WallMarbles x = behindSeven();
        for (int k = 0; k < due.length; k++) {
            due("mark(" + kind + ", " + k + ")", x.mark(kind, k), due[k]);
        }
        due("one PART more", x.mark(kind, due.length), NO);
    }

    private void images() {
        says("IMAGES 0, 1 keep NOW", this::twoImages);
        says("(STANDS, LANDINGS, the LODGED one, MARBLES let in, what may be UNDONE)", this::whatIsKept);
        says("; nothing else.", this::nothingElse);
    }

    private void twoImages() {
        WallMarbles x = Check.of("landing;");
        x.let(0);
        due("keep(0)", x.keep(0), 1);
        due("the other is not kept by it", x.back(1), STATE);
        x.let(0);
        due("keep(1)", x.keep(1), 2);
        x.let(0);
        due("back(0)", x.back(0), 1);
        due("back(1)", x.back(1), 2);
        due("back(0) again", x.back(0), 1);
        // What comes behind it does not change an IMAGE.
        letMany(x, 5, 0);
        x.undo();
        due("back(0) again", x.back(0), 1);
        x.let(0);
        x.let(0);
        due("keep(0) anew", x.keep(0), 3);
        x.let(0);
        due("back(0)", x.back(0), 3);
        due("back(1) is as it was", x.back(1), 2);
    }

    private void whatIsKept() {
        WallMarbles x = behindSeven();
        x.lodge(3);
        x.keep(1);
        x.lodge(-1);
        letMany(x, 30, 0);
        x.lodge(4);
        due("back(1)", x.back(1), 7);
        int[] stands = {0, 0, 5, 1, 0};
        int[] at = {3, 2, 0, 0, 0};
        for (int k = 0; k < 5; k++) {
            due("STAND of " + k, x.part(k, 4), stands[k]);
            due("at " + k, x.part(k, 5), at[k]);
        }
        due("let in", x.now(0), 7);
        due("at LANDINGS", x.now(1), 5);
        due("LODGED", x.now(2), 3);
        due("may be UNDONE", x.count(3), 7);
        for (int i = 6; i >= 0; i--) {
            due("undo()", x.undo(), i);
        }
        due("no more", x.undo(), STATE);
        due("all STANDS as at the beginning", x.part(2, 4) + x.part(3, 4), 0);
        x.back(1);
        due("the IMAGE has them still", x.count(3), 7);
        due("none LODGED comes back, too", noneLodgedKept(), NONE);
        due("the twenty of 25", knownOf25(), 5);
    }

    private static int noneLodgedKept() {
        WallMarbles x = Check.of("landing;");
        x.keep(0);
        x.lodge(0);
        x.back(0);
        return x.now(2);
    }

    private static int knownOf25() {
        WallMarbles x = Check.of("landing;cup 0 2;");
        letMany(x, 25, 0);
        x.keep(0);
        letMany(x, 25, 0);
        x.back(0);
        int left = x.now(0);
        for (int i = 0; i < 30 && left >= 0; i++) {
            int undone = x.undo();
            if (undone == STATE) {
                return left;
            }
            left = undone;
        }
        return left;
    }

    private void nothingElse() {
        WallMarbles x = Check.of(HOUSE);
        x.tried(0, 0);
        Check.typed(x, "cup");
        x.mark(PIPE, 0);
        x.keep(0);
        x.keep(1);
        x.tried(1, NONE);
        Check.typed(x, " 0");
        x.mark(SLOW, 0);
        x.back(0);
        due("TRIED", x.count(2), 2);
        due("THE TEXT", x.count(4), 5);
        due("THE TRACE", x.trace(), 12);
        due("the other IMAGE", x.back(1), 0);
        due("the house", x.count(0), 5);
    }

    private void refusals() {
        says("Refused, and nothing changes, the first of these:", () -> {
            refused("let(2)", BAD, State.NEW, x -> x.let(2));
            refused("let(2)", BAD, State.FULL, x -> x.let(2));
            refused("type(32, 9)", BAD, State.FULL, x -> x.type(32, 9));
            refused("tried(2, 0)", BAD, State.FULL, x -> x.tried(2, 0));
            refused("back(2)", BAD, State.NEW, x -> x.back(2));
            refused("shortest(1)", BAD, State.NEW, x -> x.shortest(1));
        });
        says("BAD (a number is not as told, or there is no such thing)", () -> {
            due("BAD", BAD, -1);
            refusedEverywhere("part(0, 6)", BAD, x -> x.part(0, 6));
            refusedEverywhere("part(9, 0)", BAD, x -> x.part(9, 0));
        });
        says(", STATE (as told)", () -> {
            due("STATE", STATE, -2);
            refused("back(0)", STATE, State.NEW, x -> x.back(0));
            refused("back(1)", STATE, State.TYPED, x -> x.back(1));
        });
        says(", FULL.", () -> {
            due("FULL", FULL, -3);
            refused("let(0)", FULL, State.FULL, x -> x.let(0));
            refused("type(32, 1)", FULL, State.FULL, x -> x.type(32, 1));
            refused("tried(0, NONE)", FULL, State.FULL, x -> x.tried(0, NONE));
        });
        says("The constants: `NO = -1000000`: What none is, where a number may be below 0.", () -> {
            due("NO", NO, -1000000);
            due("NONE", NONE, -9);
            due("mark() below 0", Check.of("landing;landing;").mark(LEAKING, 1), -1);
            due("mark() of none", Check.of("landing;landing;").mark(LEAKING, 2), NO);
        });
    }

    private void mark() {
        chapter("Promise 20");
        says("MARK.", () -> {
            WallMarbles x = Check.of(State.HOUSE);
            due("the first KIND, the first PART", x.mark(0, 0), 0);
            due("the last KIND, the last PART", x.mark(5, 8), 0);
            due("the T of the last PART", x.mark(1, 8), 1);
        });
        says("NO: BAD.", () -> {
            for (int kind : new int[] {-1, 6, 7, LEAST, MOST}) {
                refusedEverywhere("mark(" + kind + ", 0)", NO, x -> x.mark(kind, 0));
            }
            for (int k : new int[] {-1, 9, 10, LEAST, MOST}) {
                for (int kind = PIPE; kind <= WIDE; kind++) {
                    int one = kind;
                    refusedEverywhere("mark(" + kind + ", " + k + ")", NO, x -> x.mark(one, k));
                }
            }
            refused("mark(0, 0)", NO, State.NEW, x -> x.mark(0, 0));
        });
    }

    private void keep() {
        chapter("Promise 21");
        says("An IMAGE is kept: how many were let in.", () -> {
            WallMarbles x = Check.of("landing;");
            due("none", x.keep(0), 0);
            letMany(x, 100, 0);
            due("100", x.keep(1), 100);
            x.back(0);
            due("back(1)", x.back(1), 100);
            due("100 were", x.let(0), FULL);
            due("no PARTS: keep(0)", new WallMarbles().keep(0), 0);
        });
        says("BAD.", () -> {
            for (int image : new int[] {-1, 2, LEAST, MOST}) {
                refusedEverywhere("keep(" + image + ")", BAD, x -> x.keep(image));
            }
        });
    }

    private void back() {
        chapter("Promise 22");
        says("All of that becomes as an IMAGE has it: how many were let in.", () -> {
            WallMarbles x = Check.of("landing;cup 0 2;");
            x.keep(0);
            letMany(x, 3, 0);
            due("back(0)", x.back(0), 0);
            due("at LANDINGS", x.now(1), 0);
            due("the CUP is empty", x.now(3), 0);
            due("none may be UNDONE", x.undo(), STATE);
            WallMarbles y = new WallMarbles();
            y.keep(1);
            due("no PARTS: back(1)", y.back(1), 0);
        });
        says("BAD", () -> {
            for (int image : new int[] {-1, 2, LEAST, MOST}) {
                refusedEverywhere("back(" + image + ")", BAD, x -> x.back(image));
            }
        });
        says("STATE: none was kept.", () -> {
            refused("back(0)", STATE, State.NEW, x -> x.back(0));
            refused("back(1)", STATE, State.NEW, x -> x.back(1));
            refused("back(1)", STATE, State.TYPED, x -> x.back(1));
            WallMarbles x = Check.of("landing;");
            x.keep(1);
            due("the other one", x.back(0), STATE);
            due("this one", x.back(1), 0);
            Check.told(x, "landing;");
            due("gone with the house", x.back(1), STATE);
        });
    }

    private void count() {
        chapter("Promise 23");
        says("0 PARTS", () -> counted(0, 0, 0, 9, 9));
        says("1 LANDINGS", () -> counted(1, 0, 0, 3, 3));
        says("2 TRIED", () -> counted(2, 0, 1, 3, 9));
        says("3 MARBLES that may be UNDONE", () -> counted(3, 0, 0, 20, 20));
        says("4 bytes of THE TEXT.", () -> counted(4, 0, 16, 16, 200));
        says("BAD.", () -> {
            for (int what : new int[] {-1, 5, 6, LEAST, MOST}) {
                refusedEverywhere("count(" + what + ")", BAD, x -> x.count(what));
            }
        });
    }

    private void counted(int what, int... due) {
        for (State state : State.values()) {
            due(state + ": count(" + what + ")", state.made().count(what), due[state.ordinal()]);
        }
    }

    private void trace() {
        chapter("Promise 24");
        says("THE TRACE.", () -> {
            WallMarbles x = Check.of("landing;");
            due("at first", x.trace(), 0);
            for (int i = 0; i < 450; i++) {
                x.mark(WIDE, 0);
            }
            due("of 450", x.trace(), 45000450L);
            x.mark(6, 0);
            x.mark(0, 1);
            due("of none", x.trace(), 45000450L);
            due("it can be asked again", x.trace(), 45000450L);
        });
    }
}
