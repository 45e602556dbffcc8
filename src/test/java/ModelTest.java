import java.util.Random;

/**
 * All promises: long runs of calls, drawn by fixed seeds, answered by the program and by Model.
 * The looks between may go beyond 512 calls in all: the program itself has no such end.
 */
public final class ModelTest {
    private static final Check CHECK = new Check();
    private static final int RUNS = 400;
    private static final int CALLS = 512;

    private final Random random;
    private final WallMarbles program = new WallMarbles();
    private final Model model = new Model();
    private final int run;
    private int calls = 0;

    private ModelTest(int run) {
        this.run = run;
        this.random = new Random(run);
    }

    public static void main(String[] args) {
        for (int run = 0; run < RUNS; run++) {
            ModelTest test = new ModelTest(run);
            while (test.calls < CALLS) {
                test.oneCall(test.random.nextInt(60));
            }
        }
        CHECK.end();
    }

    private void same(String call, long got, long want) {
        calls++;
        CHECK.due("run " + run + ", call " + calls + ": " + call, got, want);
    }

    private int odd(int... ordinary) {
        int[] odd = {-1, -2, -9, 2, 3, 5, 6, 9, 10, 100, Integer.MAX_VALUE, Integer.MIN_VALUE};
        return random.nextInt(12) == 0 ? odd[random.nextInt(odd.length)] : ordinary[random.nextInt(ordinary.length)];
    }

    private int aPart() {
        return odd(random.nextInt(Math.max(1, program.count(0))));
    }

    private int aRow(int length) {
        int row = 0;
        for (int i = 0; i < length; i++) {
            row = row * 10 + 1 + random.nextInt(2);
        }
        return random.nextInt(20) == 0 ? row + random.nextInt(5) : row;
    }

    private int someLandings() {
        int all = 0;
        int length = random.nextInt(20) == 0 ? 5 : random.nextInt(5);
        for (int i = 0; i < length; i++) {
            int k = random.nextInt(9);
            for (int j = 0; j < 9 && program.part(k, 0) != 0 && random.nextInt(20) != 0; j++) {
                k = (k + 1) % 9;
            }
            all = all * 10 + k + 1;
        }
        return random.nextInt(20) == 0 ? odd(0) : all;
    }

    private int aLandingOrNone() {
        return random.nextInt(3) == 0 ? WallMarbles.NONE : odd(0, 1, 2, program.brings(1, 0));
    }

    private String aHouse() {
        StringBuilder text = new StringBuilder();
        int parts = random.nextInt(30) == 0 ? 10 : 1 + random.nextInt(9);
        for (int k = 0; k < parts; k++) {
            int sort = k == 0 ? 0 : random.nextInt(k < 3 ? 3 : 10);
            if (sort < 2) {
                text.append("landing");
            } else if (sort < 6) {
                text.append("fork ").append(below(k)).append(' ').append(below(k)).append(' ').append(1 + random.nextInt(3));
            } else if (sort < 8) {
                text.append("sieve ").append(below(k)).append(' ').append(below(k));
            } else {
                text.append("cup ").append(below(k)).append(' ').append(2 + random.nextInt(3));
            }
            text.append(';');
        }
        for (int i = random.nextInt(4); i == 3; i = random.nextInt(4)) {
            spoil(text);
        }
        return text.toString();
    }

    // The parts just below, mostly, so that marbles go a long way.
    private int below(int k) {
        return random.nextInt(3) == 0 ? random.nextInt(k) : k - 1 - random.nextInt(Math.min(k, 3));
    }

    private void spoil(StringBuilder text) {
        String signs = "  ;0123459abcdefgilnoprsuv#A" + (char) 0 + (char) 200;
        int place = random.nextInt(text.length() + 1);
        char sign = signs.charAt(random.nextInt(signs.length()));
        int how = random.nextInt(4);
        if (how < 2) {
            text.insert(place, how == 0 ? ' ' : sign);
        } else if (place < text.length()) {
            if (how == 2) {
                text.setCharAt(place, sign);
            } else {
                text.deleteCharAt(place);
            }
        }
    }

    private void typeAll(String text) {
        for (int from = 0; from < text.length();) {
            int n = Math.min(1 + random.nextInt(8), text.length() - from);
            long v = random.nextLong();
            for (int i = 0; i < n; i++) {
                v = v << 8 | text.charAt(from + i);
            }
            same("type", program.type(v, n), model.type(v, n));
            from += n;
        }
    }

    private void oneCall(int call) {
        int size = odd(0, 1);
        if (call == 0 || program.count(0) == 0 && call < 20) {
            typeAll(aHouse());
            same("house", program.house(), model.house());
            if (random.nextInt(8) != 0) {
                same("clear", program.clear(), model.clear());
            }
        } else if (call < 22) {
            same("let(" + size + ")", program.let(size), model.let(size));
        } else if (call < 25) {
            same("undo()", program.undo(), model.undo());
        } else if (call < 27) {
            int k = random.nextInt(3) == 0 ? -1 : aPart();
            same("lodge(" + k + ")", program.lodge(k), model.lodge(k));
        } else if (call < 34) {
            rowCall(call - 27, size);
        } else if (call < 45) {
            lodgedCall(call - 34, size);
        } else {
            otherCall(call - 45);
        }
        if (random.nextInt(6) == 0) {
            howAllStands();
        }
    }

    private void rowCall(int call, int size) {
        int length = random.nextInt(10);
        int row = random.nextInt(10) == 0 ? odd(0) : aRow(length);
        int other = random.nextInt(10) == 0 ? odd(0) : aRow(length);
        int i = odd(random.nextInt(10));
        int landings = someLandings();
        if (call < 2) {
            same("brings(" + row + ", " + i + ")", program.brings(row, i), model.brings(row, i));
        } else if (call < 4) {
            same("shortest(" + landings + ")", program.shortest(landings), model.shortest(landings));
        } else if (call == 4) {
            same("round(" + size + ")", program.round(size), model.round(size));
        } else if (call == 5) {
            same("standings()", program.standings(), model.standings());
        } else {
            same("apart(" + row + ", " + other + ")", program.apart(row, other), model.apart(row, other));
        }
    }

    private void lodgedCall(int call, int size) {
        int what = odd(0, 1);
        int n = odd(random.nextInt(10), program.now(0));
        int comes = aLandingOrNone();
        if (call < 4) {
            same("tried(" + size + ", " + comes + ")", program.tried(size, comes), model.tried(size, comes));
        } else if (call == 4) {
            same("forget()", program.forget(), model.forget());
        } else if (call < 7) {
            same("lodges()", program.lodges(), model.lodges());
        } else if (call < 9) {
            same("trial(" + what + ")", program.trial(what), model.trial(what));
        } else {
            same("called(" + n + ")", program.called(n), model.called(n));
        }
    }

    private void otherCall(int call) {
        int kind = odd(0, 1, 2, 3, 4, 5);
        int k = aPart();
        int image = odd(0, 1);
        int what = odd(0, 1, 2, 3, 4, 5);
        if (call < 4) {
            same("mark(" + kind + ", " + k + ")", program.mark(kind, k), model.mark(kind, k));
        } else if (call < 6) {
            same("keep(" + image + ")", program.keep(image), model.keep(image));
        } else if (call < 8) {
            same("back(" + image + ")", program.back(image), model.back(image));
        } else if (call == 8) {
            same("part(" + k + ", " + what + ")", program.part(k, what), model.part(k, what));
        } else if (call == 9) {
            same("now(" + what + ")", program.now(what), model.now(what));
        } else if (call == 10) {
            same("count(" + what + ")", program.count(what), model.count(what));
        } else if (call == 11) {
            long v = random.nextLong();
            same("type(" + v + ", " + k + ")", program.type(v, k), model.type(v, k));
        } else if (call == 12 && random.nextInt(8) == 0) {
            same("house()", program.house(), model.house());
        } else if (call == 13) {
            same("clear()", program.clear(), model.clear());
        } else {
            same("trace()", program.trace(), model.trace());
        }
    }

    private void howAllStands() {
        for (int k = 0; k < program.count(0); k++) {
            for (int what = 0; what < 6; what++) {
                CHECK.due("run " + run + ": part(" + k + ", " + what + ")", program.part(k, what), model.part(k, what));
            }
        }
        for (int what = 0; what < 4; what++) {
            CHECK.due("run " + run + ": now(" + what + ")", program.now(what), model.now(what));
        }
        for (int what = 0; what < 5; what++) {
            CHECK.due("run " + run + ": count(" + what + ")", program.count(what), model.count(what));
        }
    }
}
