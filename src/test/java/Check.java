import java.nio.charset.StandardCharsets;

/** What all tests use: answers compared with those due, and a text typed as the interface wants it. */
final class Check {
    private int right = 0;
    private int wrong = 0;
    private String heading = "";

    void due(String call, long got, long want) {
        if (got == want) {
            right++;
        } else {
            wrong++;
            System.out.println(heading + call + " answered " + got + ", due is " + want);
        }
    }

    /** What the next answers are looked at for; it is told with each that is wrong. */
    void under(String words) {
        heading = words.isEmpty() ? "" : words + ": ";
    }

    int looked() {
        return right + wrong;
    }

    void holds(String what, boolean so) {
        due(what, so ? 1 : 0, 1);
    }

    /** To be called last: exit code 1 if an answer was wrong, or if none was looked at. */
    void end() {
        System.out.println(right + " answers as due, " + wrong + " not");
        if (wrong != 0 || right == 0) {
            System.exit(1);
        }
    }

    static int typed(WallMarbles marbles, String text) {
        byte[] bytes = text.getBytes(StandardCharsets.ISO_8859_1);
        int last = marbles.count(4);
        for (int from = 0; from < bytes.length; from += 8) {
            int n = Math.min(8, bytes.length - from);
            long v = 0;
            for (int i = 0; i < n; i++) {
                v = v << 8 | bytes[from + i] & 255;
            }
            last = marbles.type(v, n);
        }
        return last;
    }

    static int told(WallMarbles marbles, String text) {
        typed(marbles, text);
        return marbles.house();
    }

    static WallMarbles of(String text) {
        WallMarbles marbles = new WallMarbles();
        if (told(marbles, text) < 0) {
            throw new IllegalStateException("the test's own house has a fault: " + text);
        }
        return marbles;
    }
}
