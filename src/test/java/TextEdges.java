/** Section 1 of "Terms", and promises 1 to 5: the text, the house, the parts. */
final class TextEdges extends Edges {
    private static final String EIGHT = "landing;".repeat(8);
    private static final String NINE = "landing;".repeat(9);
    private static final String[] WORDS = {"landing", "fork", "sieve", "cup"};

    TextEdges(Check check, Doc doc) {
        super(check, doc);
    }

    @Override
    void all() {
        parts();
        text();
        faults();
        aNewObject();
        type();
        clear();
        house();
        part();
    }

    private void parts() {
        chapter("Terms");
        says("(9 of them at most)", this::nineParts);
        says("are told from below: LANDING", this::toldFromBelow);
        says("FORK to two PARTS told ahead (LEFT, RIGHT)", this::forksToPartsToldAhead);
        says("TIPS by T (1 .. 3)", this::forksTip);
        says("SIEVE to two PARTS told ahead", this::sievesToPartsToldAhead);
        says("CUP to a PART told ahead", this::cupsToAPartToldAhead);
        says("FULL at T (2 .. 4)", this::cupsAreFull);
        says("MARBLES are let in at the last PART", this::lastPart);
        says("they are small (0) or large (1)", this::sizes);
    }

    private void nineParts() {
        reads(NINE, 9);
        reads(EIGHT + "fork 0 7 3;", 9);
        fault(NINE + "landing;", 72);
        WallMarbles x = Check.of(NINE);
        due("the ninth PART", x.part(8, 0), 0);
        due("a tenth PART", x.part(9, 0), BAD);
    }

    private void toldFromBelow() {
        WallMarbles x = Check.of("landing;cup 0 2;landing;");
        due("the first told is PART 0", x.part(0, 0), 0);
        due("the second told is PART 1", x.part(1, 0), 3);
        due("the third told is PART 2", x.part(2, 0), 0);
        due("a LANDING leads nowhere", x.part(0, 1), NONE);
        fault("cup 1 2;landing;", 4);
    }

    private void forksToPartsToldAhead() {
        WallMarbles x = Check.of("landing;landing;fork 0 1 1;fork 2 0 1;");
        due("LEFT", x.part(2, 1), 0);
        due("RIGHT", x.part(2, 2), 1);
        due("LEFT, the last told ahead", x.part(3, 1), 2);
        due("RIGHT, the first told", x.part(3, 2), 0);
        fault("fork 0 0 1;", 5);
        fault("landing;fork 1 0 1;", 13);
        fault("landing;fork 0 1 1;", 15);
        reads(EIGHT + "fork 7 7 1;", 9);
        fault(EIGHT + "fork 8 7 1;", 69);
        fault(EIGHT + "fork 7 8 1;", 71);
    }

    private void forksTip() {
        for (int t = 1; t <= 3; t++) {
            due("T " + t, Check.of("landing;fork 0 0 " + t + ";").part(1, 3), t);
        }
        fault("landing;fork 0 0 0;", 17);
        fault("landing;fork 0 0 4;", 17);
        fault("landing;fork 0 0 11;", 17);
        fault("landing;fork 0 0 30;", 17);
    }

    private void sievesToPartsToldAhead() {
        WallMarbles x = Check.of("landing;landing;sieve 0 1;sieve 2 0;");
        due("LEFT", x.part(2, 1), 0);
        due("RIGHT", x.part(2, 2), 1);
        due("LEFT, the last told ahead", x.part(3, 1), 2);
        due("RIGHT, the first told", x.part(3, 2), 0);
        fault("sieve 0 0;", 6);
        fault("landing;sieve 1 0;", 14);
        fault("landing;sieve 0 1;", 16);
        reads(EIGHT + "sieve 7 7;", 9);
        fault(EIGHT + "sieve 8 7;", 70);
        fault(EIGHT + "sieve 7 8;", 72);
    }

    private void cupsToAPartToldAhead() {
        WallMarbles x = Check.of("landing;landing;cup 1 2;cup 0 2;cup 3 2;");
        due("the last told ahead", x.part(2, 1), 1);
        due("the first told", x.part(3, 1), 0);
        due("a CUP to a CUP", x.part(4, 1), 3);
        fault("cup 0 2;", 4);
        fault("landing;cup 1 2;", 12);
        reads(EIGHT + "cup 7 2;", 9);
        fault(EIGHT + "cup 8 2;", 68);
    }

    private void cupsAreFull() {
        for (int t = 2; t <= 4; t++) {
            due("T " + t, Check.of("landing;cup 0 " + t + ";").part(1, 3), t);
        }
        fault("landing;cup 0 0;", 14);
        fault("landing;cup 0 1;", 14);
        fault("landing;cup 0 5;", 14);
        fault("landing;cup 0 12;", 14);
        fault("landing;cup 0 40;", 14);
    }

    private void lastPart() {
        due("the last is a LANDING", Check.of("landing;cup 0 2;landing;").let(0), 2);
        due("the last is a CUP", Check.of("landing;landing;cup 0 2;").let(0), NONE);
        due("the ninth is the last", Check.of(NINE).let(1), 8);
        due("the first is the last", Check.of("landing;").let(1), 0);
    }

    private void sizes() {
        WallMarbles x = Check.of("landing;landing;sieve 0 1;");
        due("small", x.let(0), 0);
        due("large", x.let(1), 1);
        for (int size : new int[] {-1, 2, 10, LEAST, MOST}) {
            refusedEverywhere("let(" + size + ")", BAD, y -> y.let(size));
            refusedEverywhere("round(" + size + ")", BAD, y -> y.round(size));
            refusedEverywhere("tried(" + size + ", NONE)", BAD, y -> y.tried(size, NONE));
        }
    }

    private void text() {
        says("They are a text (200 bytes at most)", this::twoHundredBytes);
        says("read byte by byte", this::byteByByte);
        says("blanks (32) between TOKENS", this::blanks);
        says("ITEMS, each ended by ;", this::itemsEnd);
        says(": landing ; fork A B T ; sieve A B ; cup A T", this::items);
        says("(A, B PARTS told ahead,", this::notToldAhead);
        says("A and B may be one)", this::mayBeOne);
        says("TOKENS are words of letters a .. z (landing, fork, sieve, cup)", this::letters);
        says("NUMBERS and ; .", this::digits);
    }

    private void twoHundredBytes() {
        WallMarbles x = new WallMarbles();
        due("the 200th byte", Check.typed(x, "landing;" + " ".repeat(184) + "landing;"), 200);
        due("a 201st byte", x.type(';', 1), FULL);
        due("all 200 bytes are read", x.house(), 2);
        reads(" ".repeat(192) + "landing;", 1);
        reads("landing" + " ".repeat(192) + ";", 1);
    }

    private void byteByByte() {
        String text = "landing;landing;fork 0 1 3;";
        WallMarbles x = new WallMarbles();
        for (int i = 0; i < text.length(); i++) {
            due("byte " + i, x.type(text.charAt(i), 1), i + 1);
        }
        due("house() of single bytes", x.house(), 3);
        due("its T", x.part(2, 3), 3);
        // One byte stands for one sign: a sign of two bytes is two that begin no TOKEN.
        fault("landing;" + (char) 0xC3 + (char) 0xA9, 8);
        fault("landing" + (char) 0xC3 + (char) 0xA9 + ";", 7);
    }

    private void blanks() {
        reads("  landing  ;   fork   0  0   1  ;  ", 2);
        reads("landing;fork 0 0 1;", 2);
        for (int sign = 0; sign < 256; sign++) {
            boolean letter = sign >= 'a' && sign <= 'z';
            if (sign == ' ') {
                reads("landing ;", 1);
                reads(" landing;", 1);
                reads("landing; ", 1);
            } else {
                fault("landing" + (char) sign + ";", letter ? 0 : sign == ';' ? 8 : 7);
                fault((char) sign + "landing;", 0);
                fault("landing;" + (char) sign, 8);
            }
        }
        // A blank parts a word and a NUMBER, too.
        fault("land ing;", 0);
        fault("landing;fork 0 0 1 1;", 19);
    }

    private void itemsEnd() {
        reads("landing;", 1);
        reads("landing;landing;", 2);
        fault("landing landing;", 8);
        fault("landing;cup 0 2 cup 0 2;", 16);
        fault("landing;fork 0 0 1 landing;", 19);
        fault("landing;sieve 0 0 sieve 0 0;", 18);
        fault(";", 0);
        fault("landing;;", 8);
        fault("landing; ;", 9);
    }

    private void items() {
        reads("landing;fork 0 0 1;sieve 1 0;cup 2 2;", 4);
        fault("landing 0;", 8);
        fault("landing;fork;", 12);
        fault("landing;fork 0;", 14);
        fault("landing;fork 0 0;", 16);
        fault("landing;fork 0 0 1 1;", 19);
        fault("landing;sieve;", 13);
        fault("landing;sieve 0;", 15);
        fault("landing;sieve 0 0 1;", 18);
        fault("landing;cup;", 11);
        fault("landing;cup 0;", 13);
        fault("landing;cup 0 2 2;", 16);
        fault("landing;fork cup 0 1;", 13);
        fault("landing;fork 0 cup 1;", 15);
        fault("landing;fork 0 0 cup;", 17);
        fault("landing;sieve cup 0;", 14);
        fault("landing;sieve 0 cup;", 16);
        fault("landing;cup cup 2;", 12);
        fault("landing;cup 0 cup;", 14);
        fault("0;", 0);
        fault("landing;0 0 1;", 8);
    }

    private void notToldAhead() {
        for (int told = 0; told <= 8; told++) {
            String ahead = "landing;".repeat(told);
            int from = ahead.length();
            fault(ahead + "fork " + told + " 0 1;", from + 5);
            fault(ahead + "sieve " + told + " 0;", from + 6);
            fault(ahead + "cup " + told + " 2;", from + 4);
            if (told > 0) {
                int last = told - 1;
                reads(ahead + "fork " + last + " " + last + " 1;", told + 1);
                reads(ahead + "sieve " + last + " " + last + ";", told + 1);
                reads(ahead + "cup " + last + " 2;", told + 1);
                fault(ahead + "fork 0 " + told + " 1;", from + 7);
                fault(ahead + "sieve 0 " + told + ";", from + 8);
            }
        }
    }

    private void mayBeOne() {
        WallMarbles x = Check.of("landing;fork 0 0 1;sieve 1 1;");
        due("a FORK's LEFT", x.part(1, 1), 0);
        due("a FORK's RIGHT", x.part(1, 2), 0);
        due("a SIEVE's LEFT", x.part(2, 1), 1);
        due("a SIEVE's RIGHT", x.part(2, 2), 1);
        lets(x, "0101", 0, 0, 0, 0);
        due("the FORK tips all the same", x.part(1, 4), 0);
        x.let(0);
        due("the FORK tips all the same", x.part(1, 4), 1);
    }

    private void letters() {
        reads("landing;fork 0 0 1;sieve 0 0;cup 0 2;", 4);
        // a and z are letters, the signs ahead of and behind them are none.
        fault("landinga;", 0);
        fault("landingz;", 0);
        fault("landing`;", 7);
        fault("landing{;", 7);
        fault("Landing;", 0);
        fault("landinG;", 0);
        fault("LANDING;", 0);
        fault("landing;cup 0 2 z;", 16);
    }

    private void digits() {
        reads("landing;cup 0 2;", 2);
        // 0 and 9 are digits, the signs ahead of and behind them are none.
        fault("landing;cup 0 20;", 14);
        fault("landing;cup 0 29;", 14);
        fault("landing;cup 0 2/;", 15);
        fault("landing;cup 0 2:;", 15);
        fault("landing;cup /0 2;", 12);
        fault("landing;cup :0 2;", 12);
        fault("landing;cup -0 2;", 12);
        fault("landing;cup +0 2;", 12);
        fault("landing;cup 0 2.;", 15);
        fault("landing;cup 0,2;", 13);
    }

    private void faults() {
        says("FAULT: the place of the first byte of the first TOKEN that can't stand there", this::firstFault);
        says("a tenth part", this::tenthPart);
        says("a NUMBER beyond what it may be, too", this::numberBeyond);
        says("of a byte that begins none", this::byteThatBeginsNone);
        says("a word that is none of these", this::wordThatIsNone);
        says("a NUMBER above 99", this::numberAbove99);
        says("or with a 0 ahead of others, that TOKEN's", this::zeroAhead);
        says("the text's length, if it ends too early", this::endsTooEarly);
    }

    private void firstFault() {
        fault("   ;", 3);
        fault("landing;   cup   0   landing;", 21);
        // Of two the first, whatever the second is.
        fault("landing;cup 1 1;", 12);
        fault("landing;cup 0 1;#", 14);
        fault("landing;cup 0 1", 14);
        fault("#landing", 0);
        fault("landing;cups 0 1;", 8);
        fault("landing;;landing", 8);
    }

    private void tenthPart() {
        fault(NINE + "landing;", 72);
        fault(NINE + "fork 0 0 1;", 72);
        fault(NINE + "sieve 0 0;", 72);
        fault(NINE + "cup 0 2;", 72);
        fault(NINE + "  landing;", 74);
        // It can't stand there, however it goes on, or does not.
        fault(NINE + "landing", 72);
        fault(NINE + "cup 9 9", 72);
        reads(NINE + "   ", 9);
        fault(EIGHT + "cup 7 4;cup 8 4;", 72);
    }

    private void numberBeyond() {
        fault("landing;fork 9 0 1;", 13);
        fault("landing;fork 0 99 1;", 15);
        fault("landing;fork 0 0 99;", 17);
        fault("landing;sieve 10 0;", 14);
        fault("landing;sieve 0 10;", 16);
        fault("landing;cup 99 2;", 12);
        fault("landing;cup 0 99;", 14);
        fault(EIGHT + "cup 10 2;", 68);
    }

    private void byteThatBeginsNone() {
        for (int sign = 0; sign < 256; sign++) {
            boolean begins = sign == ' ' || sign == ';' || sign >= 'a' && sign <= 'z' || sign >= '0' && sign <= '9';
            if (!begins) {
                fault("" + (char) sign, 0);
                fault("  " + (char) sign + ";", 2);
                fault("landing;cup " + (char) sign + " 2;", 12);
                fault("landing;cup 0 2" + (char) sign, 15);
            }
        }
    }

    private void wordThatIsNone() {
        for (String word : WORDS) {
            fault(word.substring(0, word.length() - 1) + ";", 0);
            fault(word.substring(1) + ";", 0);
            fault(word + word.charAt(word.length() - 1) + ";", 0);
            fault("a" + word + ";", 0);
            fault("landing;" + word + "s 0 0 1;", 8);
            for (int i = 0; i < word.length(); i++) {
                char other = word.charAt(i) == 'x' ? 'y' : 'x';
                fault("landing;" + word.substring(0, i) + other + word.substring(i + 1) + " 0 0 1;", 8);
            }
        }
        fault("a;", 0);
        fault("z;", 0);
        // Where no word can stand, such a word can't either.
        fault("landing wall;", 8);
        fault("landing;cup wall 2;", 12);
    }

    private void numberAbove99() {
        fault("landing;cup 100 2;", 12);
        fault("landing;cup 0 100;", 14);
        fault("landing;cup 0 200;", 14);
        fault("landing;cup 0 999;", 14);
        fault("landing 100;", 8);
        fault("100;", 0);
        // Beyond 8, 32 and 64 bits: what wraps around to 2 is no 2.
        fault("landing;cup 0 258;", 14);
        fault("landing;cup 0 4294967298;", 14);
        fault("landing;cup 0 18446744073709551618;", 14);
        fault("landing;cup 4294967296 2;", 12);
        fault("landing;cup 18446744073709551616 2;", 12);
        fault("landing;cup 0 " + "2".repeat(185) + ";", 14);
    }

    private void zeroAhead() {
        reads("landing;cup 0 2;", 2);
        fault("landing;cup 00 2;", 12);
        fault("landing;cup 000 2;", 12);
        fault("landing;cup 0 02;", 14);
        fault("landing;cup 0 002;", 14);
        fault("landing;landing;fork 01 0 1;", 21);
        fault("landing;landing;fork 0 01 1;", 23);
        fault("landing;fork 0 0 01;", 17);
        fault("landing;sieve 00 0;", 14);
        fault("landing;sieve 0 00;", 16);
    }

    private void endsTooEarly() {
        String[] early = {
            "landing", "fork", "sieve", "cup", "landing;fork", "landing;fork 0", "landing;fork 0 0", "landing;fork 0 0 1",
            "landing;sieve", "landing;sieve 0", "landing;sieve 0 0", "landing;cup", "landing;cup 0", "landing;cup 0 2",
        };
        for (String text : early) {
            fault(text, text.length());
            fault(text + " ", text.length() + 1);
            fault(text + "     ", text.length() + 5);
        }
        fault("landing" + " ".repeat(193), 200);
        fault(EIGHT + "landing", 71);
        // A word that is broken off is none; a text of no ITEMS ends where it may.
        fault("landing;cu", 8);
        reads("", 0);
        reads(" ", 0);
        reads("landing;  ", 1);
    }

    private void aNewObject() {
        chapter("Promise 1");
        says("As told; no PARTS.", this::noParts);
        chapter("What it is");
        says("An object is used for at most 512 calls after it has been made", this::theLastCall);
    }

    private void noParts() {
        WallMarbles x = new WallMarbles();
        for (int what = 0; what <= 4; what++) {
            due("count(" + what + ")", x.count(what), 0);
        }
        due("now(0)", x.now(0), 0);
        due("now(1)", x.now(1), 0);
        due("now(2)", x.now(2), NONE);
        due("now(3)", x.now(3), 0);
        due("trace()", x.trace(), 0);
        due("part(0, 0)", x.part(0, 0), BAD);
        due("let(0)", x.let(0), STATE);
        due("undo()", x.undo(), STATE);
        due("back(0)", x.back(0), STATE);
        due("back(1)", x.back(1), STATE);
        due("clear()", x.clear(), 0);
        due("forget()", x.forget(), 0);
        due("house()", x.house(), 0);
        // One object knows nothing of another.
        Check.told(x, "landing;");
        x.let(0);
        due("another object", new WallMarbles().count(0), 0);
        due("another object's marbles", new WallMarbles().now(0), 0);
    }

    private void theLastCall() {
        WallMarbles x = new WallMarbles();
        x.type(0x6C616E64696E673BL, 8);
        x.house();
        for (int call = 3; call <= 511; call++) {
            due("call " + call, x.mark(5, 0), 0);
        }
        due("call 512", x.trace(), 509L * 100001);
    }

    private void type() {
        chapter("Promise 2");
        says("The lowest n (1 .. 8) bytes of v", this::lowestBytes);
        says("the highest of them first", this::highestFirst);
        says("come to THE TEXT: how many it has.", this::howManyItHas);
        says("BAD; FULL.", this::typeRefused);
    }

    private void lowestBytes() {
        for (int n = 1; n <= 8; n++) {
            WallMarbles x = new WallMarbles();
            // Above the lowest n bytes stand others that must not come.
            long low = 0x2020202020202020L >>> 8 * (8 - n);
            long above = n == 8 ? 0 : -1L << 8 * n;
            due("type(v, " + n + ")", x.type(above | low, n), n);
            due("only blanks came of " + n, x.house(), 0);
        }
        refusedEverywhere("type(32, 0)", BAD, y -> y.type(32, 0));
        refusedEverywhere("type(32, 9)", BAD, y -> y.type(32, 9));
        refusedEverywhere("type(32, -1)", BAD, y -> y.type(32, -1));
    }

    private void highestFirst() {
        WallMarbles x = new WallMarbles();
        x.type(0x6C616E64696E673BL, 8);
        due("landing;", x.house(), 1);
        x.type(0x3B676E69646E616CL, 8);
        due(";gnidnal", x.house(), -10);
        x.clear();
        // The highest bit of v is one of a byte like others.
        x.type(0x20L << 56 | 0xFFL << 48, 8);
        due("a blank, then byte 255", x.house(), -11);
        x.clear();
        x.type(0xFFL << 56, 8);
        due("byte 255 first", x.house(), -10);
    }

    private void howManyItHas() {
        WallMarbles x = new WallMarbles();
        int has = 0;
        for (int n = 1; n <= 8; n++) {
            has += n;
            due("type(0, " + n + ")", x.type(0, n), has);
            due("count(4)", x.count(4), has);
        }
    }

    private void typeRefused() {
        for (int n = 1; n <= 8; n++) {
            WallMarbles x = new WallMarbles();
            Check.typed(x, " ".repeat(200 - n));
            due("to 200 by " + n, x.type(0, n), 200);
            WallMarbles y = new WallMarbles();
            Check.typed(y, " ".repeat(201 - n));
            due("to 201 by " + n, y.type(0, n), FULL);
            due("nothing came of " + n, y.count(4), 201 - n);
            due("blanks are left of " + n, y.house(), 0);
        }
        for (int n : new int[] {0, 9, -8, 256, LEAST, MOST}) {
            refusedEverywhere("type(32, " + n + ")", BAD, y -> y.type(32, n));
        }
        refused("type(32, 1)", FULL, State.FULL, y -> y.type(32, 1));
        refused("type(32, 8)", FULL, State.FULL, y -> y.type(32, 8));
    }

    private void clear() {
        chapter("Promise 3");
        says("THE TEXT is empty: how many bytes it had.", this::cleared);
    }

    private void cleared() {
        WallMarbles x = new WallMarbles();
        due("clear() of none", x.clear(), 0);
        x.type(';', 1);
        due("clear() of one", x.clear(), 1);
        due("count(4)", x.count(4), 0);
        Check.typed(x, " ".repeat(200));
        due("clear() of 200", x.clear(), 200);
        due("clear() again", x.clear(), 0);
        due("200 bytes again", Check.typed(x, "landing;" + " ".repeat(192)), 200);
        due("they are read", x.house(), 1);
        Check.typed(x, "land");
        x.clear();
        due("what was cleared is gone", Check.told(x, "ing;"), -10);
        due("the house stays", x.count(0), 1);
    }

    private void house() {
        chapter("Promise 4");
        says("THE TEXT tells all, and is empty then: how many ITEMS.", this::toldAll);
        says("-10 less FAULT: nothing changes.", this::faultChangesNothing);
        chapter("Terms");
        says("(Read anew: all STANDS 0, none LODGED, none let in, nothing TRIED, IMAGES are gone.)", this::readAnew);
    }

    private void toldAll() {
        WallMarbles x = Check.of(NINE);
        due("of a smaller house", Check.told(x, "landing;cup 0 2;"), 2);
        due("its PARTS", x.count(0), 2);
        due("the old third PART is gone", x.part(2, 0), BAD);
        due("no text", x.count(4), 0);
        due("of an empty text", x.house(), 0);
        due("no PARTS then", x.count(0), 0);
        due("no LANDINGS then", x.count(1), 0);
        due("no marble then", x.let(0), STATE);
        due("of nine", Check.told(x, NINE), 9);
        due("of blanks", Check.told(x, "   "), 0);
        due("no PARTS again", x.part(0, 0), BAD);
    }

    private void faultChangesNothing() {
        due("the least FAULT", Check.told(new WallMarbles(), "#"), -10);
        due("a FAULT at the 200th byte", Check.told(new WallMarbles(), "landing;" + " ".repeat(191) + "#"), -209);
        due("the highest FAULT", Check.told(new WallMarbles(), "landing" + " ".repeat(193)), -210);
        for (State state : State.values()) {
            WallMarbles x = spoilt(state);
            due(state + ": house()", x.house(), -47);
            same(state + ": house() with a fault", x, spoilt(state));
        }
        WallMarbles x = new WallMarbles();
        due("ends too early", Check.told(x, "landing;landing"), -25);
        x.type(';', 1);
        due("the text went on", x.house(), 2);
    }

    // The fault stands behind PARTS that would be read.
    private static WallMarbles spoilt(State state) {
        WallMarbles x = state.made();
        x.clear();
        Check.typed(x, "landing;fork 0 0 1;sieve 1 1;cup 2 2;# cup 0 2;");
        return x;
    }

    private void readAnew() {
        for (State state : State.values()) {
            WallMarbles x = state.made();
            long trace = x.trace();
            x.clear();
            due("house()", Check.told(x, State.HOUSE), 9);
            due(state + ": none TRIED", x.count(2), 0);
            due(state + ": none may be UNDONE", x.count(3), 0);
            due(state + ": none was let in", x.now(0), 0);
            due(state + ": none at LANDINGS", x.now(1), 0);
            due(state + ": none LODGED", x.now(2), NONE);
            due(state + ": no CUP holds", x.now(3), 0);
            for (int k = 0; k < 9; k++) {
                due(state + ": STAND of " + k, x.part(k, 4), 0);
                due(state + ": at " + k, x.part(k, 5), 0);
            }
            due(state + ": LODGES", x.lodges(), 1023);
            due(state + ": undo()", x.undo(), STATE);
            due(state + ": back(0)", x.back(0), STATE);
            due(state + ": back(1)", x.back(1), STATE);
            due(state + ": THE TRACE is no part of it", x.trace(), trace);
            due(state + ": 100 can be let in again", x.let(0), 0);
        }
    }

    private void part() {
        chapter("Promise 5");
        says("Of a PART: 0 what it is (0 LANDING, 1 FORK, 2 SIEVE, 3 CUP)", () -> looks(0, 0, 1, 2, 3));
        says("1 LEFT (of a CUP where it goes on; NONE)", () -> looks(1, NONE, 0, 1, 2));
        says("2 RIGHT (NONE)", () -> looks(2, NONE, 0, 0, NONE));
        says("3 T (0)", () -> looks(3, 0, 3, 0, 4));
        says("4 its STAND", () -> looks(4, 0, 1, 0, 3));
        says("5 what is at it (LANDINGS; else 0).", () -> looks(5, 1, 0, 0, 0));
        says("BAD.", this::partRefused);
    }

    // Seven marbles: the fourth goes on to the landing, three are held.
    private void looks(int what, int... due) {
        WallMarbles x = Check.of("landing;fork 0 0 3;sieve 1 0;cup 2 4;");
        letMany(x, 7, 0);
        for (int k = 0; k < due.length; k++) {
            due("part(" + k + ", " + what + ")", x.part(k, what), due[k]);
        }
    }

    private void partRefused() {
        for (int k : new int[] {-1, 9, 10, LEAST, MOST}) {
            refusedEverywhere("part(" + k + ", 0)", BAD, y -> y.part(k, 0));
        }
        for (int what : new int[] {-1, 6, LEAST, MOST}) {
            refusedEverywhere("part(0, " + what + ")", BAD, y -> y.part(0, what));
        }
        refused("part(0, 0)", BAD, State.NEW, y -> y.part(0, 0));
        for (int parts = 1; parts <= 9; parts++) {
            WallMarbles x = Check.of("landing;".repeat(parts));
            due("the last of " + parts, x.part(parts - 1, 0), 0);
            due("one more than " + parts, x.part(parts, 0), BAD);
        }
    }
}
