import java.util.Arrays;

/**
 * A house of pipes told by a text, and the marbles that are let in at its last part.
 * All rows are made in the constructors and used again: no call makes an object.
 */
public final class WallMarbles {
    public static final int BAD = -1, STATE = -2, FULL = -3, NONE = -9;
    public static final int NO = -1000000;

    private static final int LANDING = 0, FORK = 1, SIEVE = 2, CUP = 3;
    private static final int SMALL = 0, LARGE = 1;
    private static final int PIPE = 0, SLOW = 1, LEAKING = 2, JOINED = 3, OLD = 4, WIDE = 5;

    private static final int MOST_PARTS = 9;
    private static final int MOST_BYTES = 200;
    private static final int MOST_LET_IN = 100;
    private static final int MOST_KNOWN = 20;
    private static final int MOST_TRIED = 9;
    private static final int MOST_STANDINGS = 200;
    private static final int LONGEST_ROW = 9;
    private static final int LONGEST_ROUND = 500;
    private static final int HIGHEST_ROW = 999999999;
    private static final int HIGHEST_LANDINGS = 9999;
    private static final int INT_FIGURES = 10;
    private static final int NOT_SO_LONG = -5;
    private static final int FAULT_BASE = -10;
    private static final int NO_FAULT = -1;
    private static final int NO_STANDING = -1;
    private static final int NONE_LODGED_BIT = 9;

    private static final int[] KIND_TRACE = {1, 10, 100, 1000, 10000, 100000};

    private final Text text;
    private House built;
    private House spare;
    private final Present present;
    private final Present firstImage;
    private final Present secondImage;
    private boolean firstKept;
    private boolean secondKept;
    private final Trials trials;
    private final int[] reached;
    private final int[] groups;
    private long traced;

    public WallMarbles() {
        text = new Text();
        built = new House();
        spare = new House();
        present = new Present();
        firstImage = new Present();
        secondImage = new Present();
        trials = new Trials();
        reached = new int[MOST_STANDINGS];
        groups = new int[MOST_PARTS + 1];
    }

    // ---- the house

    public int type(long v, int n) {
        if (n < 1 || n > 8) {
            return BAD;
        }
        if (text.length + n > MOST_BYTES) {
            return FULL;
        }
        for (int i = n - 1; i >= 0; i--) {
            text.append((int) (v >>> (8 * i)) & 255);
        }
        return text.length;
    }

    public int clear() {
        int had = text.length;
        text.length = 0;
        return had;
    }

    public int house() {
        int fault = text.readInto(spare);
        if (fault != NO_FAULT) {
            return FAULT_BASE - fault;
        }
        House old = built;
        built = spare;
        spare = old;
        text.length = 0;
        present.begin();
        trials.number = 0;
        firstKept = false;
        secondKept = false;
        return built.size;
    }

    public int part(int k, int what) {
        if (!built.has(k) || what < 0 || what > 5) {
            return BAD;
        }
        switch (what) {
            case 0: return built.sortOf(k);
            case 1: return built.leftOf(k);
            case 2: return built.rightOf(k);
            case 3: return built.turnOf(k);
            case 4: return Standing.standAt(present.standing, k);
            default: return present.atPart(k);
        }
    }

    // ---- marbles

    public int let(int size) {
        if (!isSize(size)) {
            return BAD;
        }
        if (built.size == 0) {
            return STATE;
        }
        if (present.letIn >= MOST_LET_IN) {
            return FULL;
        }
        int outcome = built.fall(present.standing, size, present.lodged);
        present.take(outcome);
        return Standing.comesOf(outcome);
    }

    public int undo() {
        if (present.known < 1) {
            return STATE;
        }
        present.takeBack();
        return present.letIn;
    }

    public int lodge(int k) {
        if (k != -1 && !built.has(k)) {
            return BAD;
        }
        int was = present.lodged;
        present.lodged = k == -1 ? NONE : k;
        return was;
    }

    public int now(int what) {
        switch (what) {
            case 0: return present.letIn;
            case 1: return present.atAll();
            case 2: return present.lodged;
            case 3: return built.cupsHolding(present.standing);
            default: return BAD;
        }
    }

    // ---- rows

    public int brings(int row, int i) {
        if (!isRow(row) || i < 0) {
            return BAD;
        }
        if (built.size == 0) {
            return STATE;
        }
        if (i >= figures(row)) {
            return NOT_SO_LONG;
        }
        int rest = turned(row);
        int outcome = Standing.outcome(present.standing, NONE);
        for (int j = 0; j <= i && j < LONGEST_ROW; j++) {
            outcome = built.fall(Standing.standingOf(outcome), rest % 10 - 1, present.lodged);
            rest /= 10;
        }
        return Standing.comesOf(outcome);
    }

    public int shortest(int landings) {
        if (!areLandings(landings)) {
            return BAD;
        }
        if (built.size == 0) {
            return STATE;
        }
        int wanted = turned(landings);
        for (int length = 0; length <= LONGEST_ROW; length++) {
            int row = rowOf(length, present.standing, wanted, 0);
            if (row != NONE) {
                return row;
            }
        }
        return NONE;
    }

    public int round(int size) {
        if (!isSize(size)) {
            return BAD;
        }
        if (built.size == 0) {
            return STATE;
        }
        int standing = present.standing;
        for (int marbles = 1; marbles <= LONGEST_ROUND; marbles++) {
            standing = built.standingAfter(standing, size, present.lodged);
            if (standing == present.standing) {
                return marbles;
            }
        }
        return NONE;
    }

    public int standings() {
        if (built.size == 0) {
            return STATE;
        }
        reached[0] = present.standing;
        int found = 1;
        for (int i = 0; i < found && i < MOST_STANDINGS; i++) {
            for (int size = SMALL; size <= LARGE; size++) {
                int next = built.standingAfter(reached[i], size, present.lodged);
                if (found < MOST_STANDINGS && !isReached(next, found)) {
                    reached[found] = next;
                    found++;
                }
            }
        }
        return found;
    }

    public int apart(int row, int other) {
        if (!isRow(row) || !isRow(other) || figures(row) != figures(other)) {
            return BAD;
        }
        if (built.size == 0) {
            return STATE;
        }
        int length = figures(row);
        int rest = turned(row);
        int otherRest = turned(other);
        int outcome = Standing.outcome(present.standing, NONE);
        int otherOutcome = outcome;
        for (int i = 0; i < length; i++) {
            outcome = built.fall(Standing.standingOf(outcome), rest % 10 - 1, present.lodged);
            otherOutcome = built.fall(Standing.standingOf(otherOutcome), otherRest % 10 - 1, present.lodged);
            if (Standing.comesOf(outcome) != Standing.comesOf(otherOutcome)) {
                return i;
            }
            rest /= 10;
            otherRest /= 10;
        }
        return NONE;
    }

    // ---- lodged ones, calls

    public int tried(int size, int comes) {
        if (!isSize(size) || (comes != NONE && !built.isLanding(comes))) {
            return BAD;
        }
        if (trials.number >= MOST_TRIED) {
            return FULL;
        }
        trials.append(size, comes);
        return trials.number;
    }

    public int forget() {
        int had = trials.number;
        trials.number = 0;
        return had;
    }

    public int lodges() {
        if (built.size == 0) {
            return STATE;
        }
        int bits = 0;
        for (int bit = 0; bit <= NONE_LODGED_BIT; bit++) {
            if (canBeLodged(bit) && trials.standingBehind(built, lodgedOf(bit)) != NO_STANDING) {
                bits |= 1 << bit;
            }
        }
        return bits;
    }

    public int trial(int what) {
        if (what != 0 && what != 1) {
            return BAD;
        }
        if (built.size == 0) {
            return STATE;
        }
        int bySmall = leftAtWorst(SMALL);
        int byLarge = leftAtWorst(LARGE);
        if (bySmall == 0) {
            return NONE;
        }
        if (what == 1) {
            return Math.min(bySmall, byLarge);
        }
        return byLarge < bySmall ? LARGE : SMALL;
    }

    public int called(int n) {
        if (n < 0 || n > LONGEST_ROW) {
            return BAD;
        }
        if (built.size == 0) {
            return STATE;
        }
        return rowsToPresent(n, 0);
    }

    // ---- kinds, images

    public int mark(int kind, int k) {
        if (kind < PIPE || kind > WIDE || !built.has(k)) {
            return NO;
        }
        return markBody(kind, k);
    }

    public int keep(int image) {
        if (image != 0 && image != 1) {
            return BAD;
        }
        if (image == 0) {
            firstImage.become(present);
            firstKept = true;
        } else {
            secondImage.become(present);
            secondKept = true;
        }
        return present.letIn;
    }

    public int back(int image) {
        if (image != 0 && image != 1) {
            return BAD;
        }
        if (image == 0 ? !firstKept : !secondKept) {
            return STATE;
        }
        present.become(image == 0 ? firstImage : secondImage);
        return present.letIn;
    }

    public int count(int what) {
        switch (what) {
            case 0: return built.size;
            case 1: return built.landings();
            case 2: return trials.number;
            case 3: return present.known;
            case 4: return text.length;
            default: return BAD;
        }
    }

    public long trace() {
        return traced;
    }

    // ---- what the calls use

    private static boolean isSize(int size) {
        return size == SMALL || size == LARGE;
    }

    private static boolean isRow(int row) {
        if (row < 0 || row > HIGHEST_ROW) {
            return false;
        }
        int rest = row;
        for (int i = 0; i < LONGEST_ROW && rest > 0; i++) {
            int figure = rest % 10;
            if (figure != 1 && figure != 2) {
                return false;
            }
            rest /= 10;
        }
        return true;
    }

    private boolean areLandings(int landings) {
        if (landings < 0 || landings > HIGHEST_LANDINGS) {
            return false;
        }
        int rest = landings;
        for (int i = 0; i < INT_FIGURES && rest > 0; i++) {
            if (!built.isLanding(rest % 10 - 1)) {
                return false;
            }
            rest /= 10;
        }
        return true;
    }

    private static int figures(int number) {
        int rest = number;
        int figures = 0;
        for (int i = 0; i < INT_FIGURES && rest > 0; i++) {
            rest /= 10;
            figures++;
        }
        return figures;
    }

    // The first figure becomes the lowest, so that % 10 and / 10 read a row from its first on.
    private static int turned(int number) {
        int rest = number;
        int turned = 0;
        for (int i = 0; i < INT_FIGURES && rest > 0; i++) {
            turned = turned * 10 + rest % 10;
            rest /= 10;
        }
        return turned;
    }

    // The first row of just so many marbles; shorter ones have been asked ahead, so a
    // row that has all it wants too early can't lead to one.
    private int rowOf(int marbles, int standing, int wanted, int row) {
        if (marbles <= 0 || marbles > LONGEST_ROW) {
            return wanted == 0 ? row : NONE;
        }
        if (wanted == 0 || figures(wanted) > marbles) {
            return NONE;
        }
        for (int size = SMALL; size <= LARGE; size++) {
            int outcome = built.fall(standing, size, present.lodged);
            int comes = Standing.comesOf(outcome);
            if (comes == NONE || comes == wanted % 10 - 1) {
                int left = comes == NONE ? wanted : wanted / 10;
                int found = rowOf(marbles - 1, Standing.standingOf(outcome), left, row * 10 + size + 1);
                if (found != NONE) {
                    return found;
                }
            }
        }
        return NONE;
    }

    private int rowsToPresent(int marbles, int standing) {
        if (marbles <= 0 || marbles > LONGEST_ROW) {
            return standing == present.standing ? 1 : 0;
        }
        int small = built.standingAfter(standing, SMALL, present.lodged);
        int large = built.standingAfter(standing, LARGE, present.lodged);
        int bySmall = rowsToPresent(marbles - 1, small);
        return bySmall + (large == small ? bySmall : rowsToPresent(marbles - 1, large));
    }

    private boolean isReached(int standing, int found) {
        for (int i = 0; i < found && i < MOST_STANDINGS; i++) {
            if (reached[i] == standing) {
                return true;
            }
        }
        return false;
    }

    private boolean canBeLodged(int bit) {
        return bit == NONE_LODGED_BIT || built.has(bit);
    }

    private static int lodgedOf(int bit) {
        return bit == NONE_LODGED_BIT ? NONE : bit;
    }

    private int leftAtWorst(int size) {
        Arrays.fill(groups, 0);
        int worst = 0;
        for (int bit = 0; bit <= NONE_LODGED_BIT; bit++) {
            int standing = canBeLodged(bit) ? trials.standingBehind(built, lodgedOf(bit)) : NO_STANDING;
            if (standing != NO_STANDING) {
                int comes = Standing.comesOf(built.fall(standing, size, lodgedOf(bit)));
                int group = comes >= 0 && comes < MOST_PARTS ? comes : MOST_PARTS;
                groups[group]++;
                worst = Math.max(worst, groups[group]);
            }
        }
        return worst;
    }

    // Each kind asks a kind of a lower number, so this goes three deep at most.
    private int markBody(int kind, int k) {
        if (kind < PIPE || kind > WIDE) {
            return 0;
        }
        traced += KIND_TRACE[kind];
        switch (kind) {
            case SLOW: return markBody(PIPE, k) + built.turnOf(k);
            case LEAKING: return markBody(PIPE, k) - k;
            case JOINED: return markBody(SLOW, k) * 2;
            case OLD: return markBody(LEAKING, k) + present.letIn;
            case WIDE: return markBody(PIPE, k) + present.atPart(k);
            default: return Standing.standAt(present.standing, k);
        }
    }

    /**
     * All stands of a house in one int, three bits a part (a fork's stand is 5 at most),
     * and above them what came of a marble: a search can go on from a standing without a copy.
     */
    private static final class Standing {
        private static final int PART_BITS = 3;
        private static final int PART_MASK = 7;
        private static final int ALL_BITS = 27;
        private static final int ALL_MASK = (1 << ALL_BITS) - 1;

        static int standAt(int standing, int k) {
            return (standing >>> (PART_BITS * k)) & PART_MASK;
        }

        static int withStand(int standing, int k, int stand) {
            int place = PART_BITS * k;
            return (standing & ~(PART_MASK << place)) | (stand << place);
        }

        static int outcome(int standing, int comes) {
            int above = comes >= 0 ? comes + 1 : 0;
            return standing | (above << ALL_BITS);
        }

        static int standingOf(int outcome) {
            return outcome & ALL_MASK;
        }

        static int comesOf(int outcome) {
            int above = outcome >>> ALL_BITS;
            return above == 0 ? NONE : above - 1;
        }
    }

    /** The parts as told; a part leads only to parts of lower numbers. */
    private static final class House {
        private int size;
        private final int[] sorts = new int[MOST_PARTS];
        private final int[] lefts = new int[MOST_PARTS];
        private final int[] rights = new int[MOST_PARTS];
        private final int[] turns = new int[MOST_PARTS];

        boolean has(int k) {
            return k >= 0 && k < size && k < MOST_PARTS;
        }

        int sortOf(int k) {
            return has(k) ? sorts[k] : NONE;
        }

        int leftOf(int k) {
            return has(k) ? lefts[k] : NONE;
        }

        int rightOf(int k) {
            return has(k) ? rights[k] : NONE;
        }

        int turnOf(int k) {
            return has(k) ? turns[k] : 0;
        }

        boolean isLanding(int k) {
            return has(k) && sorts[k] == LANDING;
        }

        void append(int sort, int left, int right, int turn) {
            if (size < 0 || size >= MOST_PARTS) {
                return;
            }
            sorts[size] = sort;
            lefts[size] = left;
            rights[size] = right;
            turns[size] = turn;
            size++;
        }

        int landings() {
            int landings = 0;
            for (int k = 0; k < size; k++) {
                if (isLanding(k)) {
                    landings++;
                }
            }
            return landings;
        }

        int cupsHolding(int standing) {
            int cups = 0;
            for (int k = 0; k < size; k++) {
                if (sortOf(k) == CUP && Standing.standAt(standing, k) > 0) {
                    cups++;
                }
            }
            return cups;
        }

        int standingAfter(int standing, int marble, int lodged) {
            return Standing.standingOf(fall(standing, marble, lodged));
        }

        int fall(int standing, int marble, int lodged) {
            int next = standing;
            int at = size - 1;
            for (int step = 0; step < MOST_PARTS && has(at) && at != lodged; step++) {
                int turn = turns[at];
                int stand = Standing.standAt(next, at);
                switch (sorts[at]) {
                    case FORK:
                        next = Standing.withStand(next, at, stand + 1 < 2 * turn ? stand + 1 : 0);
                        at = stand < turn ? lefts[at] : rights[at];
                        break;
                    case SIEVE:
                        at = marble == SMALL ? lefts[at] : rights[at];
                        break;
                    case CUP:
                        boolean fills = stand + 1 >= turn;
                        next = Standing.withStand(next, at, fills ? 0 : stand + 1);
                        at = fills ? lefts[at] : NONE;
                        break;
                    default:
                        return Standing.outcome(next, at);
                }
            }
            return Standing.outcome(next, NONE);
        }
    }

    /** What images keep: all that the marbles and the lodged one make. */
    private static final class Present {
        private int standing;
        private int lodged = NONE;
        private int letIn;
        private int known;
        private final int[] atLandings = new int[MOST_PARTS];
        // For each known marble, the oldest first: the standing ahead of it and what came of it.
        private final int[] ahead = new int[MOST_KNOWN];

        void begin() {
            standing = 0;
            lodged = NONE;
            letIn = 0;
            known = 0;
            Arrays.fill(atLandings, 0);
        }

        void become(Present other) {
            if (other == null) {
                return;
            }
            standing = other.standing;
            lodged = other.lodged;
            letIn = other.letIn;
            known = other.known;
            System.arraycopy(other.atLandings, 0, atLandings, 0, MOST_PARTS);
            System.arraycopy(other.ahead, 0, ahead, 0, MOST_KNOWN);
        }

        void take(int outcome) {
            int comes = Standing.comesOf(outcome);
            if (known >= MOST_KNOWN) {
                System.arraycopy(ahead, 1, ahead, 0, MOST_KNOWN - 1);
                known = MOST_KNOWN - 1;
            }
            if (known >= 0) {
                ahead[known] = Standing.outcome(standing, comes);
                known++;
            }
            changeAt(comes, 1);
            standing = Standing.standingOf(outcome);
            letIn++;
        }

        void takeBack() {
            if (known < 1 || known > MOST_KNOWN) {
                return;
            }
            known--;
            int last = ahead[known];
            changeAt(Standing.comesOf(last), -1);
            standing = Standing.standingOf(last);
            letIn--;
        }

        private void changeAt(int k, int by) {
            if (k >= 0 && k < MOST_PARTS) {
                atLandings[k] += by;
            }
        }

        int atPart(int k) {
            return k >= 0 && k < MOST_PARTS ? atLandings[k] : 0;
        }

        int atAll() {
            int all = 0;
            for (int k = 0; k < MOST_PARTS; k++) {
                all += atLandings[k];
            }
            return all;
        }
    }

    /** The marbles that were tried from the beginning, and what came of each. */
    private static final class Trials {
        private int number;
        private final int[] sizes = new int[MOST_TRIED];
        private final int[] comings = new int[MOST_TRIED];

        void append(int size, int comes) {
            if (number < 0 || number >= MOST_TRIED) {
                return;
            }
            sizes[number] = size;
            comings[number] = comes;
            number++;
        }

        int standingBehind(House house, int lodged) {
            if (house == null) {
                return NO_STANDING;
            }
            int standing = 0;
            for (int i = 0; i < number && i < MOST_TRIED; i++) {
                int outcome = house.fall(standing, sizes[i], lodged);
                if (Standing.comesOf(outcome) != comings[i]) {
                    return NO_STANDING;
                }
                standing = Standing.standingOf(outcome);
            }
            return standing;
        }
    }

    /** The bytes typed, and how they are read, token by token, up to the first fault. */
    private static final class Text {
        private static final int AT_END = 0, WORD = 1, NUMBER = 2, ITEM_END = 3, BROKEN = 4;

        private int length;
        private final int[] bytes = new int[MOST_BYTES];
        private int place;
        private int fault;
        private int token;
        private int tokenStart;
        // Of a word the sort of part, of a number itself.
        private int value;

        void append(int sign) {
            if (length >= 0 && length < MOST_BYTES) {
                bytes[length] = sign;
                length++;
            }
        }

        int readInto(House house) {
            if (house == null) {
                return 0;
            }
            house.size = 0;
            place = 0;
            fault = NO_FAULT;
            for (int item = 0; item <= MOST_PARTS && fault == NO_FAULT; item++) {
                nextToken();
                if (token == AT_END) {
                    return NO_FAULT;
                }
                readItem(house);
            }
            return fault;
        }

        private void readItem(House house) {
            if (token != WORD || house.size >= MOST_PARTS) {
                fault = tokenStart;
                return;
            }
            int sort = value;
            int left = NONE;
            int right = NONE;
            int turn = 0;
            if (sort != LANDING) {
                left = takeNumber(0, house.size - 1);
            }
            if (sort == FORK || sort == SIEVE) {
                right = takeNumber(0, house.size - 1);
            }
            if (sort == FORK) {
                turn = takeNumber(1, 3);
            } else if (sort == CUP) {
                turn = takeNumber(2, 4);
            }
            takeItemEnd();
            if (fault == NO_FAULT) {
                house.append(sort, left, right, turn);
            }
        }

        // Behind a fault nothing is read, so that the first one stays.
        private int takeNumber(int least, int most) {
            if (fault != NO_FAULT) {
                return 0;
            }
            nextToken();
            if (token != NUMBER || value < least || value > most) {
                fault = tokenStart;
            }
            return value;
        }

        private void takeItemEnd() {
            if (fault != NO_FAULT) {
                return;
            }
            nextToken();
            if (token != ITEM_END) {
                fault = tokenStart;
            }
        }

        private void nextToken() {
            while (place < length && signAt(place) == ' ') {
                place++;
            }
            tokenStart = place;
            value = 0;
            int sign = signAt(place);
            if (place >= length) {
                token = AT_END;
            } else if (sign == ';') {
                token = ITEM_END;
                place++;
            } else if (isLetter(sign)) {
                readWord();
            } else if (isDigit(sign)) {
                readNumber();
            } else {
                token = BROKEN;
            }
        }

        private void readWord() {
            while (place < length && isLetter(signAt(place))) {
                place++;
            }
            token = WORD;
            if (tokenIs("landing")) {
                value = LANDING;
            } else if (tokenIs("fork")) {
                value = FORK;
            } else if (tokenIs("sieve")) {
                value = SIEVE;
            } else if (tokenIs("cup")) {
                value = CUP;
            } else {
                token = BROKEN;
            }
        }

        private void readNumber() {
            while (place < length && isDigit(signAt(place))) {
                // A third digit breaks the token anyhow; without it the number can't wrap around.
                if (place - tokenStart < 2) {
                    value = value * 10 + signAt(place) - '0';
                }
                place++;
            }
            int digits = place - tokenStart;
            boolean zeroAhead = digits > 1 && signAt(tokenStart) == '0';
            token = digits > 2 || zeroAhead ? BROKEN : NUMBER;
        }

        private boolean tokenIs(String word) {
            if (word.length() != place - tokenStart) {
                return false;
            }
            for (int i = 0; i < word.length(); i++) {
                if (signAt(tokenStart + i) != word.charAt(i)) {
                    return false;
                }
            }
            return true;
        }

        private int signAt(int where) {
            return where >= 0 && where < length && where < MOST_BYTES ? bytes[where] : 0;
        }

        private static boolean isLetter(int sign) {
            return sign >= 'a' && sign <= 'z';
        }

        private static boolean isDigit(int sign) {
            return sign >= '0' && sign <= '9';
        }
    }
}
