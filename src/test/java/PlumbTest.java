/** Promises 11 to 14: readings, doubts, lean and limits. */
public final class PlumbTest {
    private PlumbTest() {
    }

    public static void main(String[] args) {
        readings();
        doubts();
        noLean();
        exactLines();
        doubtful();
        limits();
        Check.end();
    }

    private static ChimneyGang two() {
        return Check.told("chimney 90; chimney 80;");
    }

    private static void leanIs(ChimneyGang gang, int year, int least, int greatest) {
        Check.due("lean(0, " + year + ", 0)", gang.lean(0, year, 0), least);
        Check.due("lean(0, " + year + ", 1)", gang.lean(0, year, 1), greatest);
    }

    /** Promise 11. */
    private static void readings() {
        ChimneyGang gang = two();
        Check.due("the ends", gang.plumb(0, 0, -3000), true);
        Check.due("the other ends", gang.plumb(0, 300, 3000), true);
        Check.due("year -1", gang.plumb(0, -1, 0), false);
        Check.due("year 301", gang.plumb(0, 301, 0), false);
        Check.due("-3001", gang.plumb(0, 1, -3001), false);
        Check.due("3001", gang.plumb(0, 1, 3001), false);
        leanIs(gang, 150, 0, 0);
        leanIs(gang, 500, 7000, 7000);
        for (int i = 3; i <= 10; i++) {
            Check.due("reading " + i, gang.plumb(0, 0, -3000), true);
        }
        Check.due("reading 11", gang.plumb(0, 0, -3000), false);
        Check.due("another chimney's first", gang.plumb(1, 0, -3000), true);
        Check.missing("plumb(2, ..)", () -> gang.plumb(2, 0, 0) ? 1 : 0);
        Check.missing("plumb(-1, ..), ahead of the year", () -> gang.plumb(-1, -1, 0) ? 1 : 0);
    }

    /** Promise 12. */
    private static void doubts() {
        ChimneyGang gang = two();
        gang.plumb(0, 0, 0);
        gang.plumb(0, 10, 0);
        Check.due("doubt(0, 500)", gang.doubt(0, 500), true);
        leanIs(gang, 5, -500, 500);
        Check.due("doubt(0, 501)", gang.doubt(0, 501), false);
        Check.due("doubt(0, -1)", gang.doubt(0, -1), false);
        leanIs(gang, 5, -500, 500);
        Check.due("doubt(0, 0)", gang.doubt(0, 0), true);
        leanIs(gang, 5, 0, 0);
        Check.missing("doubt(2, 0)", () -> gang.doubt(2, 0) ? 1 : 0);
        Check.missing("doubt(-1, 501)", () -> gang.doubt(-1, 501) ? 1 : 0);
    }

    /** Promise 13: where there is none, and what comes first. */
    private static void noLean() {
        ChimneyGang gang = two();
        Check.refused("no readings", () -> gang.lean(0, 1, 0));
        gang.plumb(0, 7, 0);
        gang.plumb(0, 7, 0);
        Check.refused("one year", () -> gang.lean(0, 7, 0));
        Check.due("one year has no limit", gang.limit(0, -3000, 0), -1);
        gang.plumb(0, 9, 0);
        leanIs(gang, 7, 0, 0);
        Check.refused("year -1", () -> gang.lean(0, -1, 0));
        Check.refused("year 501", () -> gang.lean(0, 501, 0));
        leanIs(gang, 500, 0, 0);
        Check.missing("another what", () -> gang.lean(0, 501, 2));
        Check.missing("what -1", () -> gang.lean(0, 501, -1));
        Check.missing("another chimney", () -> gang.lean(2, 501, 0));
        gang.plumb(0, 7, 1);
        Check.refused("unlike in one year", () -> gang.lean(0, 7, 0));
        gang.doubt(0, 1);
        gang.plumb(0, 8, 30);
        Check.refused("no line goes through", () -> gang.lean(0, 7, 0));
        gang.doubt(0, 500);
        Check.due("now one does", gang.lean(0, 7, 0) < gang.lean(0, 7, 1), true);
    }

    /** A line by itself, cut both ways, below 0 too. */
    private static void exactLines() {
        ChimneyGang gang = two();
        gang.plumb(0, 0, -5);
        gang.plumb(0, 3, -4);
        leanIs(gang, 0, -5, -5);
        leanIs(gang, 1, -5, -4);
        leanIs(gang, 3, -4, -4);
        leanIs(gang, 14, -1, 0);
        leanIs(gang, 15, 0, 0);
        leanIs(gang, 16, 0, 1);
        gang.plumb(0, 6, -3);
        leanIs(gang, 16, 0, 1);
        gang.plumb(0, 7, -3);
        Check.refused("a fourth beside the line", () -> gang.lean(0, 16, 0));
    }

    /** Three readings that bound one another: the middle one lets no line be steep. */
    private static void doubtful() {
        ChimneyGang gang = two();
        gang.doubt(0, 2);
        gang.plumb(0, 10, 100);
        gang.plumb(0, 20, 110);
        leanIs(gang, 30, 114, 126);
        leanIs(gang, 0, 84, 96);
        leanIs(gang, 15, 103, 107);
        leanIs(gang, 10, 98, 102);
        gang.plumb(0, 15, 107);
        leanIs(gang, 15, 105, 107);
        leanIs(gang, 10, 98, 102);
        leanIs(gang, 20, 108, 112);
        // least: 102 in year 10, 108 in year 20; greatest: over 98 and 105 to 112
        leanIs(gang, 30, 114, 126);
        gang.doubt(0, 1);
        // just one line fits: 101, 106, 111
        leanIs(gang, 10, 101, 101);
        leanIs(gang, 15, 106, 106);
        leanIs(gang, 21, 112, 112);
    }

    /** Promise 14. */
    private static void limits() {
        ChimneyGang gang = two();
        gang.plumb(0, 20, 110);
        gang.plumb(0, 10, 100);
        Check.due("from the latest year on", gang.limit(0, 50, 0), 20);
        Check.due("later", gang.limit(0, 150, 1), 60);
        Check.due("in the very last year", gang.limit(0, 590, 1), 500);
        Check.due("none to 500", gang.limit(0, 591, 1), -1);
        Check.due("the least limit", gang.limit(0, Integer.MIN_VALUE, 1), 20);
        Check.due("the greatest limit", gang.limit(0, Integer.MAX_VALUE, 0), -1);
        gang.doubt(0, 2);
        Check.due("the greatest, cut up", gang.limit(0, 150, 0), 47);
        Check.due("the least", gang.limit(0, 150, 1), 90);
        Check.missing("another what", () -> gang.limit(0, 0, 2));
        Check.missing("what -1", () -> gang.limit(0, 0, -1));
        Check.missing("another chimney", () -> gang.limit(2, 0, 0));
        gang.plumb(1, 0, 10);
        gang.plumb(1, 1, 9);
        Check.due("falling, at once", gang.limit(1, 9, 0), 1);
        Check.due("falling, never", gang.limit(1, 10, 0), -1);
    }
}
