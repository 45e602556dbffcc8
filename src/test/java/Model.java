import java.util.ArrayList;
import java.util.Arrays;
import java.util.HashSet;
import java.util.List;
import java.util.Set;
import java.util.regex.Matcher;
import java.util.regex.Pattern;

/**
 * The document told a second time, without a thought for speed or room and with other means
 * (patterns, sets, snapshots, all rows tried one by one), for ModelTest to compare with.
 */
final class Model {
    private static final int BAD = -1, STATE = -2, FULL = -3, NONE = -9;
    private static final Pattern TOKEN = Pattern.compile(" *([a-z]+|[0-9]+|;|[^ ])");
    private static final List<String> WORDS = List.of("landing", "fork", "sieve", "cup");

    private record Part(int sort, int left, int right, int t) { }

    private record Snapshot(int[] stands, int[] at, int lodged, int letIn, List<Snapshot> ahead) { }

    private record Try(int size, int comes) { }

    private final StringBuilder text = new StringBuilder();
    private List<Part> parts = new ArrayList<>();
    private int[] stands = new int[9];
    private int[] at = new int[9];
    private int lodged = NONE;
    private int letIn = 0;
    private List<Snapshot> ahead = new ArrayList<>();
    private final Snapshot[] images = new Snapshot[2];
    private final List<Try> tries = new ArrayList<>();
    private long trace = 0;

    int type(long v, int n) {
        if (n < 1 || n > 8) return BAD;
        if (text.length() + n > 200) return FULL;
        for (int i = 0; i < n; i++) text.append((char) (v >> 8 * (n - 1 - i) & 255));
        return text.length();
    }

    int clear() {
        int had = text.length();
        text.setLength(0);
        return had;
    }

    int house() {
        List<Part> read = new ArrayList<>();
        List<String> item = new ArrayList<>();
        Matcher m = TOKEN.matcher(text);
        int end = 0;
        while (m.find(end) && m.start() == end) {
            end = m.end();
            item.add(m.group(1));
            if (!canStand(item, read.size())) return -10 - m.start(1);
            if (m.group(1).equals(";")) {
                read.add(partOf(item));
                item.clear();
            }
        }
        if (!item.isEmpty()) return -10 - text.length();
        parts = read;
        text.setLength(0);
        stands = new int[9];
        at = new int[9];
        lodged = NONE;
        letIn = 0;
        ahead = new ArrayList<>();
        Arrays.fill(images, null);
        tries.clear();
        return read.size();
    }

    private static boolean canStand(List<String> item, int told) {
        int i = item.size() - 1;
        String last = item.get(i);
        if (i == 0) return WORDS.contains(last) && told < 9;
        String parts = told == 0 ? "none" : "[0-" + (told - 1) + "]";
        String[] wanted = switch (item.get(0)) {
            case "landing" -> new String[] {";"};
            case "fork" -> new String[] {parts, parts, "[123]", ";"};
            case "sieve" -> new String[] {parts, parts, ";"};
            default -> new String[] {parts, "[234]", ";"};
        };
        return last.matches(wanted[i - 1]);
    }

    private static Part partOf(List<String> item) {
        int[] n = new int[item.size()];
        for (int i = 1; i < item.size() - 1; i++) n[i] = Integer.parseInt(item.get(i));
        return switch (item.get(0)) {
            case "landing" -> new Part(0, NONE, NONE, 0);
            case "fork" -> new Part(1, n[1], n[2], n[3]);
            case "sieve" -> new Part(2, n[1], n[2], 0);
            default -> new Part(3, n[1], NONE, n[2]);
        };
    }

    private boolean isPart(int k) {
        return 0 <= k && k < parts.size();
    }

    private boolean isLanding(int k) {
        return isPart(k) && parts.get(k).sort == 0;
    }

    int part(int k, int what) {
        if (!isPart(k) || what < 0 || what > 5) return BAD;
        Part p = parts.get(k);
        return new int[] {p.sort, p.left, p.right, p.t, stands[k], at[k]}[what];
    }

    /** Changes the stands given; what COMES. */
    private int comes(int[] stand, int k, int size, int lodgedThere) {
        if (k == lodgedThere) return NONE;
        Part p = parts.get(k);
        switch (p.sort) {
            case 0:
                return k;
            case 1:
                boolean right = stand[k] >= p.t;
                stand[k] = (stand[k] + 1) % (2 * p.t);
                return comes(stand, right ? p.right : p.left, size, lodgedThere);
            case 2:
                return comes(stand, size == 1 ? p.right : p.left, size, lodgedThere);
            default:
                stand[k] = (stand[k] + 1) % p.t;
                return stand[k] == 0 ? comes(stand, p.left, size, lodgedThere) : NONE;
        }
    }

    private int comes(int[] stand, int size, int lodgedThere) {
        return comes(stand, parts.size() - 1, size, lodgedThere);
    }

    private Snapshot snapshot() {
        return new Snapshot(stands.clone(), at.clone(), lodged, letIn, new ArrayList<>(ahead));
    }

    int let(int size) {
        if (size != 0 && size != 1) return BAD;
        if (parts.isEmpty()) return STATE;
        if (letIn == 100) return FULL;
        ahead.add(new Snapshot(stands.clone(), at.clone(), NONE, letIn, List.of()));
        if (ahead.size() > 20) ahead.remove(0);
        letIn++;
        int comes = comes(stands, size, lodged);
        if (comes != NONE) at[comes]++;
        return comes;
    }

    int undo() {
        if (ahead.isEmpty()) return STATE;
        Snapshot s = ahead.remove(ahead.size() - 1);
        stands = s.stands.clone();
        at = s.at.clone();
        letIn = s.letIn;
        return letIn;
    }

    int lodge(int k) {
        if (k != -1 && !isPart(k)) return BAD;
        int was = lodged;
        lodged = k < 0 ? NONE : k;
        return was;
    }

    int now(int what) {
        int holding = 0;
        for (int k = 0; k < parts.size(); k++) {
            if (parts.get(k).sort == 3 && stands[k] != 0) holding++;
        }
        return what < 0 || what > 3 ? BAD : new int[] {letIn, Arrays.stream(at).sum(), lodged, holding}[what];
    }

    private static String rowText(int row) {
        return row == 0 ? "" : String.valueOf(row);
    }

    private static boolean isRow(int row) {
        return rowText(row).matches("[12]{0,9}");
    }

    private List<Integer> comesOf(String row) {
        int[] stand = stands.clone();
        List<Integer> all = new ArrayList<>();
        for (char c : row.toCharArray()) all.add(comes(stand, c - '1', lodged));
        return all;
    }

    int brings(int row, int i) {
        if (!isRow(row) || i < 0) return BAD;
        if (parts.isEmpty()) return STATE;
        List<Integer> all = comesOf(rowText(row));
        return i < all.size() ? all.get(i) : -5;
    }

    private static List<String> rowsOf(int n) {
        List<String> rows = new ArrayList<>();
        for (int bits = 0; bits < 1 << n; bits++) {
            StringBuilder row = new StringBuilder();
            for (int i = n - 1; i >= 0; i--) row.append((bits >> i & 1) == 0 ? '1' : '2');
            rows.add(row.toString());
        }
        return rows;
    }

    int shortest(int landings) {
        String wanted = rowText(landings);
        if (!wanted.matches("[1-9]{0,4}")) return BAD;
        for (char c : wanted.toCharArray()) if (!isLanding(c - '1')) return BAD;
        if (parts.isEmpty()) return STATE;
        for (int n = 0; n <= 9; n++) {
            for (String row : rowsOf(n)) {
                StringBuilder came = new StringBuilder();
                for (int k : comesOf(row)) if (k != NONE) came.append(k + 1);
                if (came.toString().equals(wanted)) return n == 0 ? 0 : Integer.parseInt(row);
            }
        }
        return NONE;
    }

    int round(int size) {
        if (size != 0 && size != 1) return BAD;
        if (parts.isEmpty()) return STATE;
        int[] stand = stands.clone();
        for (int n = 1; n <= 500; n++) {
            comes(stand, size, lodged);
            if (Arrays.equals(stand, stands)) return n;
        }
        return NONE;
    }

    int standings() {
        if (parts.isEmpty()) return STATE;
        Set<String> known = new HashSet<>();
        List<int[]> open = new ArrayList<>();
        open.add(stands.clone());
        known.add(Arrays.toString(stands));
        while (!open.isEmpty() && known.size() < 1000) {
            int[] from = open.remove(open.size() - 1);
            for (int size = 0; size < 2; size++) {
                int[] to = from.clone();
                comes(to, size, lodged);
                if (known.add(Arrays.toString(to))) open.add(to);
            }
        }
        return Math.min(200, known.size());
    }

    int apart(int row, int other) {
        if (!isRow(row) || !isRow(other) || rowText(row).length() != rowText(other).length()) return BAD;
        if (parts.isEmpty()) return STATE;
        List<Integer> one = comesOf(rowText(row));
        List<Integer> two = comesOf(rowText(other));
        for (int i = 0; i < one.size(); i++) if (!one.get(i).equals(two.get(i))) return i;
        return NONE;
    }

    int tried(int size, int comes) {
        if (size != 0 && size != 1 || comes != NONE && !isLanding(comes)) return BAD;
        if (tries.size() == 9) return FULL;
        tries.add(new Try(size, comes));
        return tries.size();
    }

    int forget() {
        int had = tries.size();
        tries.clear();
        return had;
    }

    private static int lodgesBy(Model m, List<Try> tries) {
        int bits = 0;
        for (int bit = 0; bit < 10; bit++) {
            if (bit < 9 && !m.isPart(bit)) continue;
            int[] stand = new int[9];
            boolean so = true;
            for (Try t : tries) so = m.comes(stand, t.size, bit == 9 ? NONE : bit) == t.comes && so;
            if (so) bits |= 1 << bit;
        }
        return bits;
    }

    int lodges() {
        return parts.isEmpty() ? STATE : lodgesBy(this, tries);
    }

    int trial(int what) {
        if (what != 0 && what != 1) return BAD;
        if (parts.isEmpty()) return STATE;
        if (lodges() == 0) return NONE;
        int[] worst = new int[2];
        for (int size = 0; size < 2; size++) {
            for (int comes = NONE; comes < 9; comes++) {
                List<Try> more = new ArrayList<>(tries);
                more.add(new Try(size, comes));
                worst[size] = Math.max(worst[size], Integer.bitCount(lodgesBy(this, more)));
            }
        }
        int best = worst[1] < worst[0] ? 1 : 0;
        return what == 0 ? best : worst[best];
    }

    int called(int n) {
        if (n < 0 || n > 9) return BAD;
        if (parts.isEmpty()) return STATE;
        int rows = 0;
        for (String row : rowsOf(n)) {
            int[] stand = new int[9];
            for (char c : row.toCharArray()) comes(stand, c - '1', lodged);
            if (Arrays.equals(stand, stands)) rows++;
        }
        return rows;
    }

    int mark(int kind, int k) {
        if (kind < 0 || kind > 5 || !isPart(k)) return -1000000;
        int s = stands[k];
        trace += new int[] {1, 11, 101, 1011, 10101, 100001}[kind];
        int t = parts.get(k).t;
        return new int[] {s, s + t, s - k, 2 * (s + t), s - k + letIn, s + at[k]}[kind];
    }

    int keep(int image) {
        if (image != 0 && image != 1) return BAD;
        images[image] = snapshot();
        return letIn;
    }

    int back(int image) {
        if (image != 0 && image != 1) return BAD;
        if (images[image] == null) return STATE;
        Snapshot s = images[image];
        stands = s.stands.clone();
        at = s.at.clone();
        lodged = s.lodged;
        letIn = s.letIn;
        ahead = new ArrayList<>(s.ahead);
        return letIn;
    }

    int count(int what) {
        if (what < 0 || what > 4) return BAD;
        int landings = (int) parts.stream().filter(p -> p.sort == 0).count();
        return new int[] {parts.size(), landings, tries.size(), ahead.size(), text.length()}[what];
    }

    long trace() {
        return trace;
    }
}
