/** Promises 15 to 19: tried, forget, lodges, trial, called. */
public final class LodgedTest {
    private static final Check CHECK = new Check();
    private static final int NONE = WallMarbles.NONE;

    public static void main(String[] args) {
        marblesTried();
        forgotten();
        whereItCanBe();
        theNextTrial();
        trialsAreFromTheBeginning();
        calls();
        CHECK.end();
    }

    private static void marblesTried() {
        WallMarbles x = new WallMarbles();
        CHECK.due("no PARTS: tried(0, NONE)", x.tried(0, NONE), 1);
        CHECK.due("no PARTS: tried(0, 0)", x.tried(0, 0), WallMarbles.BAD);
        Check.told(x, "landing;cup 0 2;");
        CHECK.due("anew", x.count(2), 0);
        CHECK.due("tried(2, 0)", x.tried(2, 0), WallMarbles.BAD);
        CHECK.due("tried(-1, 0)", x.tried(-1, 0), WallMarbles.BAD);
        CHECK.due("tried(0, 1): no LANDING", x.tried(0, 1), WallMarbles.BAD);
        CHECK.due("tried(0, 2): no PART", x.tried(0, 2), WallMarbles.BAD);
        CHECK.due("tried(0, -1)", x.tried(0, -1), WallMarbles.BAD);
        CHECK.due("tried(0, most)", x.tried(0, Integer.MAX_VALUE), WallMarbles.BAD);
        CHECK.due("tried(0, least)", x.tried(0, Integer.MIN_VALUE), WallMarbles.BAD);
        CHECK.due("none of these", x.count(2), 0);
        for (int i = 1; i <= 9; i++) {
            CHECK.due("tried", x.tried(i % 2, i % 3 == 0 ? 0 : NONE), i);
        }
        CHECK.due("a tenth", x.tried(0, NONE), WallMarbles.FULL);
        CHECK.due("BAD ahead of FULL", x.tried(0, 1), WallMarbles.BAD);
        CHECK.due("count(2)", x.count(2), 9);
    }

    private static void forgotten() {
        WallMarbles x = Check.of("landing;");
        CHECK.due("forget() of none", x.forget(), 0);
        x.tried(0, NONE);
        x.tried(1, NONE);
        CHECK.due("lodges()", x.lodges(), 1);
        CHECK.due("forget()", x.forget(), 2);
        CHECK.due("count(2)", x.count(2), 0);
        CHECK.due("lodges() then", x.lodges(), 513);
        CHECK.due("tried again", x.tried(0, 0), 1);
        CHECK.due("lodges() then", x.lodges(), 512);
    }

    private static void whereItCanBe() {
        CHECK.due("no PARTS", new WallMarbles().lodges(), WallMarbles.STATE);
        WallMarbles x = Check.of("landing;landing;fork 0 1 1;sieve 2 1;");
        CHECK.due("nothing tried", x.lodges(), 512 + 15);
        x.tried(0, 0);
        CHECK.due("not on its way", x.lodges(), 512 + 2);
        x.tried(0, NONE);
        CHECK.due("it stays at 1", x.lodges(), 2);
        x.tried(1, NONE);
        CHECK.due("it stays at 1", x.lodges(), 2);
        x.tried(1, 1);
        CHECK.due("nowhere", x.lodges(), 0);
        x.forget();
        x.tried(0, NONE);
        CHECK.due("on its way", x.lodges(), 1 + 4 + 8);
        // A lodged fork keeps its STAND; a lodged landing lets the fork lean on.
        x.tried(0, 1);
        CHECK.due("at the first landing", x.lodges(), 1);
        // That another one is LODGED now does not matter.
        x.lodge(3);
        CHECK.due("whatever is lodged now", x.lodges(), 1);
    }

    private static void theNextTrial() {
        WallMarbles empty = new WallMarbles();
        CHECK.due("no PARTS: trial(0)", empty.trial(0), WallMarbles.STATE);
        CHECK.due("no PARTS: trial(1)", empty.trial(1), WallMarbles.STATE);
        CHECK.due("no PARTS: trial(2)", empty.trial(2), WallMarbles.BAD);
        WallMarbles x = Check.of("landing;landing;sieve 0 1;sieve 2 2;");
        CHECK.due("trial(2)", x.trial(2), WallMarbles.BAD);
        CHECK.due("trial(-1)", x.trial(-1), WallMarbles.BAD);
        // Small: 0, 2, 3 keep it back, 1 and none do not: three at worst, as with large.
        CHECK.due("small if alike", x.trial(0), 0);
        CHECK.due("three at worst", x.trial(1), 3);
        x.tried(0, 0);
        // Left are 1 and none: small parts nothing, large parts them.
        CHECK.due("large parts them", x.trial(0), 1);
        CHECK.due("one at worst", x.trial(1), 1);
        x.tried(1, 1);
        CHECK.due("one is left: small", x.trial(0), 0);
        CHECK.due("one is left", x.trial(1), 1);
        x.tried(0, NONE);
        CHECK.due("none is left", x.trial(0), NONE);
        CHECK.due("none is left", x.trial(1), NONE);
        CHECK.due("BAD all the same", x.trial(2), WallMarbles.BAD);
    }

    private static void trialsAreFromTheBeginning() {
        WallMarbles x = Check.of("landing;landing;fork 0 1 1;");
        x.let(0);
        x.tried(0, 0);
        CHECK.due("all STANDS 0, whatever is now", x.lodges(), 512 + 2);
        CHECK.due("trial(1)", x.trial(1), 1);
        x.tried(0, 1);
        CHECK.due("one behind another", x.lodges(), 512);
        // A full row of tried ones has a next one, too.
        WallMarbles y = Check.of("landing;cup 0 2;");
        for (int i = 0; i < 9; i++) {
            y.tried(0, NONE);
        }
        CHECK.due("lodges()", y.lodges(), 3);
        CHECK.due("trial(0)", y.trial(0), 0);
        CHECK.due("trial(1)", y.trial(1), 2);
    }

    private static void calls() {
        CHECK.due("no PARTS", new WallMarbles().called(3), WallMarbles.STATE);
        CHECK.due("no PARTS: called(10)", new WallMarbles().called(10), WallMarbles.BAD);
        WallMarbles x = Check.of("landing;fork 0 0 1;cup 0 2;sieve 1 2;");
        CHECK.due("called(-1)", x.called(-1), WallMarbles.BAD);
        CHECK.due("called(10)", x.called(10), WallMarbles.BAD);
        CHECK.due("called(most)", x.called(Integer.MAX_VALUE), WallMarbles.BAD);
        CHECK.due("called(0)", x.called(0), 1);
        CHECK.due("called(1)", x.called(1), 0);
        // Even many of both.
        CHECK.due("called(2)", x.called(2), 2);
        CHECK.due("called(4)", x.called(4), 8);
        CHECK.due("called(8)", x.called(8), 128);
        x.let(0);
        CHECK.due("called(0)", x.called(0), 0);
        CHECK.due("called(1)", x.called(1), 1);
        CHECK.due("called(9)", x.called(9), 256);
        // Large ones stay at the cup: odd many small ones of two.
        x.lodge(2);
        CHECK.due("with the LODGED one", x.called(1), 1);
        CHECK.due("with the LODGED one", x.called(2), 2);
        CHECK.due("with the LODGED one", x.called(9), 256);
        x.let(0);
        CHECK.due("with the LODGED one", x.called(1), 1);
        x.lodge(1);
        CHECK.due("with the LODGED one", x.called(2), 2);
        x.lodge(3);
        CHECK.due("all stays", x.called(9), 512);
        x.lodge(-1);
        x.let(1);
        x.lodge(3);
        CHECK.due("it can't be with that one lodged", x.called(9), 0);
    }
}
