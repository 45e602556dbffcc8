/** Promises 1 to 5: a new object, type, clear, house, part. */
public final class HouseTest {
    private static final Check CHECK = new Check();

    public static void main(String[] args) {
        aNewObject();
        bytesTyped();
        aFullText();
        cleared();
        houses();
        faults();
        aFaultChangesNothing();
        aHouseReadAnew();
        parts();
        CHECK.end();
    }

    private static void aNewObject() {
        WallMarbles x = new WallMarbles();
        for (int what = 0; what <= 4; what++) {
            CHECK.due("new: count(" + what + ")", x.count(what), 0);
        }
        CHECK.due("new: now(0)", x.now(0), 0);
        CHECK.due("new: now(1)", x.now(1), 0);
        CHECK.due("new: now(2)", x.now(2), WallMarbles.NONE);
        CHECK.due("new: now(3)", x.now(3), 0);
        CHECK.due("new: trace()", x.trace(), 0);
        CHECK.due("new: clear()", x.clear(), 0);
        CHECK.due("new: forget()", x.forget(), 0);
        CHECK.due("new: undo()", x.undo(), WallMarbles.STATE);
        CHECK.due("new: back(0)", x.back(0), WallMarbles.STATE);
        CHECK.due("new: part(0, 0)", x.part(0, 0), WallMarbles.BAD);
    }

    private static void bytesTyped() {
        WallMarbles x = new WallMarbles();
        CHECK.due("type(0, 0)", x.type(0, 0), WallMarbles.BAD);
        CHECK.due("type(0, 9)", x.type(0, 9), WallMarbles.BAD);
        CHECK.due("type(0, -1)", x.type(0, -1), WallMarbles.BAD);
        CHECK.due("type, least", x.type(0, Integer.MIN_VALUE), WallMarbles.BAD);
        CHECK.due("type, most", x.type(0, Integer.MAX_VALUE), WallMarbles.BAD);
        CHECK.due("count(4) behind BAD", x.count(4), 0);
        // Of "xyzland" only the lowest four bytes come.
        CHECK.due("type(..land, 4)", x.type(0x78797A6C616E64L, 4), 4);
        CHECK.due("type(ing;, 4)", x.type(0x696E673BL, 4), 8);
        CHECK.due("count(4)", x.count(4), 8);
        CHECK.due("house()", x.house(), 1);
        CHECK.due("count(4) behind house()", x.count(4), 0);
        // A byte above 127 is one like others: it begins no token.
        CHECK.due("type(-1, 8)", x.type(-1L, 8), 8);
        CHECK.due("house() of bytes 255", x.house(), -10);
    }

    private static void aFullText() {
        WallMarbles x = new WallMarbles();
        String blanks = "        ";
        for (int i = 1; i <= 24; i++) {
            CHECK.due("type of blanks", Check.typed(x, blanks), 8 * i);
        }
        CHECK.due("type to 199", x.type(0x20202020202020L, 7), 199);
        CHECK.due("type beyond 200", x.type(0x2020L, 2), WallMarbles.FULL);
        CHECK.due("BAD ahead of FULL", x.type(0x2020L, 9), WallMarbles.BAD);
        CHECK.due("count(4) behind FULL", x.count(4), 199);
        CHECK.due("type to 200", x.type(0x20L, 1), 200);
        CHECK.due("type beyond 200", x.type(0x20L, 1), WallMarbles.FULL);
        CHECK.due("house() of 200 blanks", x.house(), 0);
        Check.typed(x, "landing" + " ".repeat(192));
        CHECK.due("200 bytes", x.type(';', 1), 200);
        CHECK.due("house() of 200 bytes", x.house(), 1);
        Check.typed(x, "landing" + " ".repeat(193));
        CHECK.due("house() ends too early at 200", x.house(), -210);
    }

    private static void cleared() {
        WallMarbles x = Check.of("landing;");
        Check.typed(x, "landing;land");
        CHECK.due("clear()", x.clear(), 12);
        CHECK.due("clear() again", x.clear(), 0);
        CHECK.due("count(4) behind clear()", x.count(4), 0);
        CHECK.due("clear() leaves the house", x.count(0), 1);
        CHECK.due("a text behind clear()", Check.told(x, "landing;landing;"), 2);
    }

    private static void houses() {
        isRead("", 0);
        isRead("     ", 0);
        isRead("landing;", 1);
        isRead("  landing  ;  ", 1);
        isRead("landing;fork 0 0 1;fork 1 0 3;", 3);
        isRead("landing ; fork  0   0 2 ; sieve 1 0 ; cup 2 4 ;", 4);
        isRead("landing;sieve 0 0;cup 1 2;cup 2 3;", 4);
        isRead("landing;cup0 2;", 2);
        isRead("landing;landing;landing;landing;landing;landing;landing;landing;landing;", 9);
        isRead("landing;landing;landing;landing;landing;landing;landing;landing;fork 7 6 3;  ", 9);
    }

    private static void isRead(String text, int items) {
        WallMarbles x = new WallMarbles();
        CHECK.due("house() of '" + text + "'", Check.told(x, text), items);
        CHECK.due("count(0) of '" + text + "'", x.count(0), items);
        CHECK.due("count(4) of '" + text + "'", x.count(4), 0);
    }

    private static void faults() {
        // Ends too early: the text's length.
        isFault("landing", 7);
        isFault("landing  ", 9);
        isFault("landing;fork", 12);
        isFault("landing;fork 0", 14);
        isFault("landing;fork 0 0 ", 17);
        isFault("landing;fork 0 0 1", 18);
        isFault("landing;cup 0 2", 15);
        // A token that can't stand there.
        isFault(";", 0);
        isFault("  ;", 2);
        isFault("7;", 0);
        isFault("landing;;", 8);
        isFault("landing landing;", 8);
        isFault("landing 0;", 8);
        isFault("landing;fork 0 0;", 16);
        isFault("landing;fork ; 0 1;", 13);
        isFault("landing;fork fork 0 1;", 13);
        isFault("landing;sieve 0;", 15);
        isFault("landing;sieve 0 0 1;", 18);
        isFault("landing;cup 0;", 13);
        isFault("landing;cup 0 2 2;", 16);
        // A number beyond what it may be.
        isFault("fork 0 0 1;", 5);
        isFault("sieve 0 0;", 6);
        isFault("cup 0 2;", 4);
        isFault("landing;fork 1 0 1;", 13);
        isFault("landing;fork 0 1 1;", 15);
        isFault("landing;fork 0 0 0;", 17);
        isFault("landing;fork 0 0 4;", 17);
        isFault("landing;sieve 0 1;", 16);
        isFault("landing;cup 1 2;", 12);
        isFault("landing;cup 0 1;", 14);
        isFault("landing;cup 0 5;", 14);
        isFault("landing;fork 99 0 1;", 13);
        // A tenth part.
        isFault("landing;".repeat(9) + "landing;", 72);
        isFault("landing;".repeat(9) + " cup 0 2;", 73);
        isFault("landing;".repeat(9) + ";", 72);
        // A byte that begins no token, a word that is none of these, a number that is none.
        isFault("#", 0);
        isFault("landing;Cup 0 2;", 8);
        isFault("landing\t;", 7);
        isFault("landing;\n", 8);
        isFault("landing;cup -1 2;", 12);
        isFault("landing;cup 0 2#;", 15);
        isFault("landings;", 0);
        isFault("landin;", 0);
        isFault("landing;cups 0 2;", 8);
        isFault("landing;cu 0 2;", 8);
        isFault("landing;forl 0 0 1;", 8);
        isFault("landing;sieves 0 0;", 8);
        isFault("landing;dup 0 2;", 8);
        isFault("banding;", 0);
        isFault("landingz;", 0);
        isFault("landinga;", 0);
        isFault("landing;cup 0 29;", 14);
        isFault("landing;cup 0 20;", 14);
        isFault("landing landin;", 8);
        isFault("landing 100;", 8);
        isFault("landing;cup cups 2;", 12);
        isFault("landing;cup 100 2;", 12);
        isFault("landing;cup 4294967296 2;", 12);
        isFault("landing;cup 00 2;", 12);
        isFault("landing;cup 0 02;", 14);
        isFault("landing;cup 0 2002;", 14);
        isFault("landing;" + "cup 0 " + "2".repeat(180) + ";", 14);
        isFault("landing;fork 0 0 1 ; " + (char) 0, 21);
        // The first of two.
        isFault("landing;cup 5 9;", 12);
        isFault("landing;cup 0 9", 14);
        isFault("landing;cup 0 9;#", 14);
    }

    private static void isFault(String text, int fault) {
        WallMarbles x = new WallMarbles();
        CHECK.due("house() of '" + text + "'", Check.told(x, text), -10 - fault);
        CHECK.due("count(0) of '" + text + "'", x.count(0), 0);
        CHECK.due("count(4) of '" + text + "'", x.count(4), text.length());
    }

    private static void aFaultChangesNothing() {
        WallMarbles x = Check.of("landing;cup 0 2;");
        x.let(0);
        x.lodge(1);
        x.tried(0, 0);
        x.keep(1);
        CHECK.due("house() with a fault", Check.told(x, "landing;landing;landing"), -33);
        CHECK.due("count(0) behind a fault", x.count(0), 2);
        CHECK.due("part(1, 0) behind a fault", x.part(1, 0), 3);
        CHECK.due("part(1, 4) behind a fault", x.part(1, 4), 1);
        CHECK.due("now(0) behind a fault", x.now(0), 1);
        CHECK.due("now(2) behind a fault", x.now(2), 1);
        CHECK.due("count(2) behind a fault", x.count(2), 1);
        CHECK.due("count(3) behind a fault", x.count(3), 1);
        CHECK.due("count(4) behind a fault", x.count(4), 23);
        CHECK.due("back(1) behind a fault", x.back(1), 1);
        CHECK.due("the text goes on behind a fault", x.type(';', 1), 24);
        CHECK.due("house() of all of it", x.house(), 3);
    }

    private static void aHouseReadAnew() {
        WallMarbles x = Check.of("landing;landing;cup 0 2;fork 2 1 1;");
        x.let(0);
        x.let(0);
        x.lodge(2);
        x.tried(0, 0);
        x.keep(0);
        x.keep(1);
        x.mark(1, 3);
        CHECK.due("house() anew", Check.told(x, "landing;landing;cup 0 2;fork 2 1 1;"), 4);
        for (int k = 0; k < 4; k++) {
            CHECK.due("part(k, 4) anew", x.part(k, 4), 0);
            CHECK.due("part(k, 5) anew", x.part(k, 5), 0);
        }
        CHECK.due("now(0) anew", x.now(0), 0);
        CHECK.due("now(1) anew", x.now(1), 0);
        CHECK.due("now(2) anew", x.now(2), WallMarbles.NONE);
        CHECK.due("now(3) anew", x.now(3), 0);
        CHECK.due("count(2) anew", x.count(2), 0);
        CHECK.due("count(3) anew", x.count(3), 0);
        CHECK.due("undo() anew", x.undo(), WallMarbles.STATE);
        CHECK.due("back(0) anew", x.back(0), WallMarbles.STATE);
        CHECK.due("back(1) anew", x.back(1), WallMarbles.STATE);
        CHECK.due("trace() stays", x.trace(), 11);
        CHECK.due("house() of nothing", x.house(), 0);
        CHECK.due("no PARTS then", x.count(0), 0);
        CHECK.due("no PARTS: let(0)", x.let(0), WallMarbles.STATE);
    }

    private static void parts() {
        WallMarbles x = Check.of("landing;landing;fork 0 1 3;sieve 2 1;cup 3 4;");
        int[][] due = {
            {0, -9, -9, 0}, {0, -9, -9, 0}, {1, 0, 1, 3}, {2, 2, 1, 0}, {3, 3, -9, 4},
        };
        for (int k = 0; k < due.length; k++) {
            for (int what = 0; what < 4; what++) {
                CHECK.due("part(" + k + ", " + what + ")", x.part(k, what), due[k][what]);
            }
            CHECK.due("part(" + k + ", 4)", x.part(k, 4), 0);
            CHECK.due("part(" + k + ", 5)", x.part(k, 5), 0);
            CHECK.due("part(" + k + ", 6)", x.part(k, 6), WallMarbles.BAD);
            CHECK.due("part(" + k + ", -1)", x.part(k, -1), WallMarbles.BAD);
        }
        for (int i = 0; i < 19; i++) {
            x.let(0);
        }
        // 4 went on: 3 to part 0, the fork leans RIGHT then; 3 are held.
        CHECK.due("part(4, 4)", x.part(4, 4), 3);
        CHECK.due("part(2, 4)", x.part(2, 4), 4);
        CHECK.due("part(0, 5)", x.part(0, 5), 3);
        CHECK.due("part(1, 5)", x.part(1, 5), 1);
        CHECK.due("part(4, 5)", x.part(4, 5), 0);
        CHECK.due("part(5, 0)", x.part(5, 0), WallMarbles.BAD);
        CHECK.due("part(-1, 0)", x.part(-1, 0), WallMarbles.BAD);
        CHECK.due("part, most", x.part(Integer.MAX_VALUE, Integer.MAX_VALUE), WallMarbles.BAD);
        CHECK.due("part, least", x.part(Integer.MIN_VALUE, Integer.MIN_VALUE), WallMarbles.BAD);
    }
}
