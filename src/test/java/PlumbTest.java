/** Promises 11 to 14: readings, doubts, lean and limits. */
public final class PlumbTest {
    private PlumbTest() {
    }

    public static void main(String[] args) {
        sentences();
        Check.end();
    }

    static void sentences() {
        tenReadings();
        readingsAsTold();
        doubtsAsTold();
        lines();
        linesTriedOut();
        leastAndGreatest();
        cutDownAndUp();
        thereIsNone();
        limits();
        plumb();
        plumbNot();
        doubt();
        doubtNot();
        lean();
        leanRefused();
        leanMissing();
        limit();
        limitNone();
        limitMissing();
    }

    private static ChimneyGang two() {
        return Check.told("chimney 90;chimney 80;");
    }

    /** Of the first of two chimneys: a doubt, then a year and millimetres for each reading. */
    private static ChimneyGang read(int doubt, int... readings) {
        ChimneyGang gang = two();
        Check.due("doubt " + doubt, gang.doubt(0, doubt), true);
        add(gang, readings);
        return gang;
    }

    private static void add(ChimneyGang gang, int... readings) {
        for (int i = 0; i < readings.length; i += 2) {
            Check.due("plumb(0, " + readings[i] + ", ..)", gang.plumb(0, readings[i], readings[i + 1]), true);
        }
    }

    private static void leanIs(ChimneyGang gang, int year, int least, int greatest) {
        Check.due("lean(0, " + year + ", 0)", gang.lean(0, year, 0), least);
        Check.due("lean(0, " + year + ", 1)", gang.lean(0, year, 1), greatest);
    }

    private static void noLean(ChimneyGang gang) {
        for (int year : new int[] {0, 7, 500}) {
            Check.refused("lean(0, " + year + ", 0)", () -> gang.lean(0, year, 0));
            Check.refused("lean(0, " + year + ", 1)", () -> gang.lean(0, year, 1));
        }
        Check.due("limit(0, .., 0)", gang.limit(0, Integer.MIN_VALUE, 0), -1);
        Check.due("limit(0, .., 1)", gang.limit(0, Integer.MIN_VALUE, 1), -1);
    }

    private static void tenReadings() {
        Check.says(0, "PLUMB: of a CHIMNEY at most 10 READINGS,");
        ChimneyGang gang = two();
        for (int i = 1; i <= 10; i++) {
            Check.due("reading " + i, gang.plumb(0, 10 * i, 10 * i), true);
        }
        leanIs(gang, 300, 300, 300);
        Check.due("reading 11", gang.plumb(0, 1, 999), false);
        leanIs(gang, 300, 300, 300);
        for (int i = 1; i <= 10; i++) {
            Check.due("another chimney's reading " + i, gang.plumb(1, i, -i), true);
        }
        Check.due("and its 11th", gang.plumb(1, 0, 0), false);
        Check.due("it is of that one", gang.lean(1, 300, 1), -300);
        leanIs(gang, 300, 300, 300);
        ChimneyGang last = read(0, 0, 0, 1, 1, 2, 2, 3, 3, 4, 4, 5, 5, 6, 6, 7, 7, 8, 8);
        add(last, 9, 10);
        noLean(last);
    }

    private static void readingsAsTold() {
        Check.says(0, "each of a year (0 to 300) and millimetres (-3000 to 3000),");
        ChimneyGang gang = read(0, 0, -3000, 300, 3000);
        leanIs(gang, 0, -3000, -3000);
        leanIs(gang, 150, 0, 0);
        leanIs(gang, 500, 7000, 7000);
        ChimneyGang steep = read(500, 0, 3000, 1, -3000);
        leanIs(steep, 500, 3000 - 500 * 6000 - 499 * 500 - 500 * 500, 3000 - 500 * 6000 + 499 * 500 + 500 * 500);
        ChimneyGang late = read(0, 299, -3000, 300, 3000);
        leanIs(late, 0, -3000 - 299 * 6000, -3000 - 299 * 6000);
    }

    private static void doubtsAsTold() {
        Check.says(0, "with a DOUBT (0 to 500, of all of a CHIMNEY).");
        ChimneyGang gang = two();
        add(gang, 0, 0, 10, 0);
        leanIs(gang, 5, 0, 0);
        Check.due("doubt(0, 500)", gang.doubt(0, 500), true);
        leanIs(gang, 5, -500, 500);
        add(gang, 5, 100);
        leanIs(gang, 5, -400, 500);
        Check.due("doubt(0, 50)", gang.doubt(0, 50), true);
        leanIs(gang, 5, 50, 50);
        Check.due("doubt(1, 7)", gang.doubt(1, 7), true);
        leanIs(gang, 5, 50, 50);
        gang.plumb(1, 0, 0);
        gang.plumb(1, 9, 0);
        Check.due("the other one's", gang.lean(1, 9, 1), 7);
    }

    private static void lines() {
        Check.says(0, "A LINE (any, of fractions) goes through, if in each READING's year it is no more than DOUBT away "
            + "from it.");
        ChimneyGang gang = read(0, 0, 0, 3, 1);
        leanIs(gang, 6, 2, 2);
        add(gang, 6, 2);
        leanIs(gang, 9, 3, 3);
        add(gang, 7, 2);
        noLean(gang);
        // just 1 away from each: a line of thirds
        gang.doubt(0, 1);
        Check.due("now some do", gang.lean(0, 9, 0) <= gang.lean(0, 9, 1), true);
        ChimneyGang one = read(1, 10, 100, 20, 110, 15, 107);
        leanIs(one, 10, 101, 101);
        leanIs(one, 15, 106, 106);
        leanIs(one, 21, 112, 112);
        leanIs(one, 0, 91, 91);
        add(one, 15, 105);
        leanIs(one, 21, 112, 112);
        add(one, 15, 104);
        noLean(one);
        ChimneyGang ends = read(2, 7, 0, 7, 4, 8, 2);
        leanIs(ends, 7, 2, 2);
        add(ends, 7, 5);
        noLean(ends);
    }

    /** Four readings by each other, against all lines over two of their ends. */
    private static void linesTriedOut() {
        Check.says(0, "LEAN of a year: between the least and the greatest that LINES that go through have there,");
        int[] years = {1, 2, 4, 8};
        for (int row = 0; row < 7 * 7 * 7; row++) {
            ChimneyGang gang = Check.told("chimney 9;chimney 9;");
            NaiveGang naive = Check.naive("chimney 9;chimney 9;");
            for (int doubt = 0; doubt < 2; doubt++) {
                Check.alike(gang, naive, "doubt " + doubt + " " + (doubt + 1));
                Check.alike(gang, naive, "plumb " + doubt + " 1 " + (row % 7 - 3));
                Check.alike(gang, naive, "plumb " + doubt + " 4 " + (row / 7 % 7 - 3));
                Check.alike(gang, naive, "plumb " + doubt + " 2 0");
                Check.alike(gang, naive, "plumb " + doubt + " 8 " + (row / 49 - 3));
                for (int year : new int[] {0, years[0], years[1], 3, years[2], 7, years[3], 11}) {
                    Check.alike(gang, naive, "lean " + doubt + " " + year + " 0", "lean " + doubt + " " + year + " 1");
                }
                Check.alike(gang, naive, "limit " + doubt + " 9 0", "limit " + doubt + " 9 1", "limit " + doubt + " -9 1");
            }
        }
    }

    private static void leastAndGreatest() {
        Check.says(0, "LEAN of a year: between the least and the greatest that LINES that go through have there,");
        ChimneyGang gang = read(2, 10, 100, 20, 110);
        leanIs(gang, 30, 114, 126);
        leanIs(gang, 0, 84, 96);
        leanIs(gang, 15, 103, 107);
        leanIs(gang, 10, 98, 102);
        leanIs(gang, 20, 108, 112);
        add(gang, 15, 107);
        leanIs(gang, 15, 105, 107);
        leanIs(gang, 10, 98, 102);
        leanIs(gang, 20, 108, 112);
        // over 98 and 105 at most 112 in year 20, over 102 and 108 at least that
        leanIs(gang, 30, 114, 126);
        add(gang, 10, 99);
        leanIs(gang, 10, 98, 101);
        // least over 101 in year 10 and 105 in year 15
        leanIs(gang, 30, 117, 126);
        ChimneyGang far = read(10, 0, 0, 100, 100, 50, 50);
        leanIs(far, 50, 40, 60);
        leanIs(far, 150, 130, 170);
        add(far, 60, 80);
        // no more than 10 below 80 in year 60, and at most 60 in year 50: it rises one a year at least
        leanIs(far, 60, 70, 70);
        leanIs(far, 50, 60, 60);
        leanIs(far, 150, 160, 160);
    }

    private static void cutDownAndUp() {
        Check.says(0, "the least cut down, the greatest cut up to whole millimetres (downwards and upwards also below 0).");
        ChimneyGang gang = read(0, 0, -5, 3, -4);
        leanIs(gang, 0, -5, -5);
        leanIs(gang, 1, -5, -4);
        leanIs(gang, 2, -5, -4);
        leanIs(gang, 3, -4, -4);
        leanIs(gang, 14, -1, 0);
        leanIs(gang, 15, 0, 0);
        leanIs(gang, 16, 0, 1);
        leanIs(gang, 500, 161, 162);
        ChimneyGang falls = read(0, 0, 4, 3, 3);
        leanIs(falls, 1, 3, 4);
        leanIs(falls, 13, -1, 0);
        leanIs(falls, 500, -163, -162);
        ChimneyGang wide = read(1, 1, 0, 4, 0);
        leanIs(wide, 0, -2, 2);
        leanIs(wide, 5, -2, 2);
        leanIs(wide, 7, -3, 3);
        leanIs(wide, 8, -4, 4);
    }

    private static void thereIsNone() {
        Check.says(0, "There is none, if no LINE goes through, or all READINGS are of one year.");
        ChimneyGang gang = two();
        noLean(gang);
        add(gang, 7, 0);
        noLean(gang);
        add(gang, 7, 0, 7, 0);
        noLean(gang);
        gang.doubt(0, 500);
        noLean(gang);
        add(gang, 8, 0);
        leanIs(gang, 7, -500, 500);
        gang.doubt(0, 0);
        leanIs(gang, 7, 0, 0);
        add(gang, 7, 1);
        noLean(gang);
        gang.doubt(0, 1);
        leanIs(gang, 7, 0, 1);
        add(gang, 9, 30);
        noLean(gang);
        ChimneyGang edge = read(5, 0, 0, 10, 40, 20, 100);
        leanIs(edge, 10, 45, 45);
        leanIs(edge, 0, -5, -5);
        add(edge, 30, 155);
        noLean(read(5, 0, 0, 10, 39, 20, 100));
        noLean(read(4, 0, 0, 10, 40, 20, 100));
        noLean(read(0, 0, 0, 0, 1, 5, 5));
    }

    private static void limits() {
        Check.says(0, "A LIMIT m: the first year from the latest READING's year on, to 500, in which the greatest, the least is "
            + "m or more.");
        ChimneyGang gang = read(0, 20, 110, 10, 100);
        Check.due("from the latest year on", gang.limit(0, 50, 0), 20);
        Check.due("just as much in it", gang.limit(0, 110, 1), 20);
        Check.due("one more", gang.limit(0, 111, 1), 21);
        Check.due("in the very last year", gang.limit(0, 590, 1), 500);
        Check.due("none to 500", gang.limit(0, 591, 1), -1);
        Check.due("in the very last year, the greatest", gang.limit(0, 590, 0), 500);
        Check.due("none to 500, the greatest", gang.limit(0, 591, 0), -1);
        gang.doubt(0, 2);
        Check.due("the greatest, cut up", gang.limit(0, 150, 0), 47);
        Check.due("the least", gang.limit(0, 150, 1), 90);
        ChimneyGang falls = read(0, 0, 10, 1, 9);
        Check.due("falling, at once", falls.limit(0, 9, 0), 1);
        Check.due("falling, too late", falls.limit(0, 10, 0), -1);
        Check.due("below 0, at once", falls.limit(0, -491, 1), 1);
        ChimneyGang thirds = read(0, 0, -5, 3, -4);
        Check.due("the greatest cut up below 0", thirds.limit(0, 0, 0), 13);
        Check.due("the least cut down below 0", thirds.limit(0, 0, 1), 15);
        ChimneyGang ten = read(0, 0, 0, 1, 0, 0, 0, 1, 0, 0, 0, 1, 0, 0, 0, 1, 0, 0, 0, 1, 0);
        ten.plumb(1, 300, 0);
        Check.due("another chimney's year is not its own", ten.limit(0, 0, 0), 1);
        ChimneyGang late = read(0, 300, 5, 0, 5);
        Check.due("from year 300 on", late.limit(0, 5, 1), 300);
        Check.due("never", late.limit(0, 6, 0), -1);
    }

    private static void plumb() {
        Check.says(11, "A READING of a CHIMNEY: true.");
        ChimneyGang gang = two();
        int[][] ends = {{0, -3000}, {0, 3000}, {300, -3000}, {300, 3000}, {0, 0}, {300, 0}};
        for (int[] it : ends) {
            Check.due("plumb(1, " + it[0] + ", " + it[1] + ")", gang.plumb(1, it[0], it[1]), true);
        }
        add(gang, 1, 1, 2, 2);
        leanIs(gang, 3, 3, 3);
        Check.refused("the other one has no line", () -> gang.lean(1, 3, 0));
    }

    private static void plumbNot() {
        Check.says(11, "False: not as told, it has 10.");
        ChimneyGang gang = read(0, 0, 0, 10, 10);
        for (int year : new int[] {-1, 301, Integer.MIN_VALUE, Integer.MAX_VALUE}) {
            Check.due("year " + year, gang.plumb(0, year, 0), false);
        }
        for (int lean : new int[] {-3001, 3001, Integer.MIN_VALUE, Integer.MAX_VALUE}) {
            Check.due("millimetres " + lean, gang.plumb(0, 1, lean), false);
        }
        leanIs(gang, 5, 5, 5);
        for (int i = 3; i <= 10; i++) {
            Check.due("reading " + i, gang.plumb(0, i, i), true);
        }
        Check.due("it has 10", gang.plumb(0, 5, 5), false);
        Check.due("it has 10, the other one none", gang.plumb(1, 5, 5), true);
        Check.missing("the chimney comes first", () -> gang.plumb(2, -1, 3001));
    }

    private static void doubt() {
        Check.says(12, "Its DOUBT: true.");
        ChimneyGang gang = read(0, 0, 0, 10, 0);
        for (int doubt : new int[] {500, 1, 0, 499}) {
            Check.due("doubt(0, " + doubt + ")", gang.doubt(0, doubt), true);
            leanIs(gang, 10, -doubt, doubt);
        }
    }

    private static void doubtNot() {
        Check.says(12, "False: not as told.");
        ChimneyGang gang = read(3, 0, 0, 10, 0);
        for (int doubt : new int[] {-1, 501, Integer.MIN_VALUE, Integer.MAX_VALUE}) {
            Check.due("doubt(0, " + doubt + ")", gang.doubt(0, doubt), false);
            leanIs(gang, 10, -3, 3);
            Check.missing("the chimney comes first", () -> gang.doubt(2, doubt));
        }
    }

    private static void lean() {
        Check.says(13, "LEAN of a year: the least (what 0), the greatest (1).");
        ChimneyGang gang = read(1, 0, 0, 10, 0);
        for (int year = 0; year <= 10; year++) {
            leanIs(gang, year, -1, 1);
        }
        leanIs(gang, 15, -2, 2);
        leanIs(gang, 500, -99, 99);
    }

    private static void leanRefused() {
        Check.says(13, "IllegalArgumentException: there is none, the year is not 0 to 500.");
        ChimneyGang gang = read(1, 0, 0);
        Check.refused("there is none", () -> gang.lean(0, 0, 0));
        add(gang, 10, 0);
        for (int year : new int[] {-1, 501, Integer.MIN_VALUE, Integer.MAX_VALUE}) {
            Check.refused("lean(0, " + year + ", 0)", () -> gang.lean(0, year, 0));
            Check.refused("lean(0, " + year + ", 1)", () -> gang.lean(0, year, 1));
            Check.refused("neither", () -> gang.lean(1, year, 1));
        }
        leanIs(gang, 0, -1, 1);
        leanIs(gang, 500, -99, 99);
    }

    private static void leanMissing() {
        Check.says(13, "NoSuchElementException (ahead): also another what.");
        ChimneyGang gang = read(1, 0, 0, 10, 0);
        for (int what : new int[] {-1, 2, Integer.MIN_VALUE, Integer.MAX_VALUE}) {
            Check.missing("lean(0, 0, " + what + ")", () -> gang.lean(0, 0, what));
            Check.missing("ahead of the year", () -> gang.lean(0, 501, what));
            Check.missing("ahead of there being none", () -> gang.lean(1, 0, what));
        }
        Check.missing("no such chimney, ahead of the year", () -> gang.lean(2, 501, 0));
    }

    private static void limit() {
        Check.says(14, "A LIMIT: the first year in which the greatest (what 0), the least (1) is so much;");
        ChimneyGang gang = read(5, 0, 0, 10, 10);
        Check.due("the greatest is 15 in year 10", gang.limit(0, 15, 0), 10);
        Check.due("16", gang.limit(0, 16, 0), 11);
        Check.due("the least is 5 in year 10", gang.limit(0, 5, 1), 10);
        // it falls behind year 10: a line may rise by nothing a year
        Check.due("and no more later", gang.limit(0, 6, 1), -1);
        Check.due("the least limit", gang.limit(0, Integer.MIN_VALUE, 1), 10);
    }

    private static void limitNone() {
        Check.says(14, "NONE: none to 500, or there is no LEAN.");
        ChimneyGang gang = two();
        Check.due("no readings", gang.limit(0, Integer.MIN_VALUE, 0), -1);
        add(gang, 300, 0);
        Check.due("one reading", gang.limit(0, Integer.MIN_VALUE, 0), -1);
        add(gang, 0, 0);
        Check.due("at once", gang.limit(0, 0, 0), 300);
        Check.due("none to 500", gang.limit(0, 1, 0), -1);
        Check.due("the greatest limit", gang.limit(0, Integer.MAX_VALUE, 0), -1);
        Check.due("the greatest limit of the least", gang.limit(0, Integer.MAX_VALUE, 1), -1);
        add(gang, 300, 1);
        Check.due("no line", gang.limit(0, Integer.MIN_VALUE, 0), -1);
    }

    private static void limitMissing() {
        Check.says(14, "NoSuchElementException: also another what.");
        ChimneyGang gang = read(0, 0, 0, 1, 1);
        for (int what : new int[] {-1, 2, Integer.MIN_VALUE, Integer.MAX_VALUE}) {
            Check.missing("limit(0, 0, " + what + ")", () -> gang.limit(0, 0, what));
            Check.missing("without readings", () -> gang.limit(1, 0, what));
        }
    }
}
