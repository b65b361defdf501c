/** Promises 34 to 38: bands of iron, mortar, weak courses, new bands. */
public final class BandTest {
    private BandTest() {
    }

    public static void main(String[] args) {
        sentences();
        Check.end();
    }

    static void sentences() {
        eightBands();
        bandsAsTold();
        holdsLessByRust();
        bearsBandsNear();
        bearsMortar();
        loads();
        weakOnes();
        newBands();
        band();
        bandNot();
        mortar();
        mortarNot();
        weak();
        weakMissing();
        weakRefused();
        lasts();
        lastsRefused();
        bands();
        bandsRefused();
    }

    private static ChimneyGang of(int courses) {
        return Check.told("chimney " + courses + ";chimney 1;");
    }

    private static void weakIs(ChimneyGang gang, int year, int wind, int many, int least, int wanting) {
        Check.due("weak(0, " + year + ", " + wind + ", 0)", gang.weak(0, year, wind, 0), many);
        Check.due("weak(0, " + year + ", " + wind + ", 1)", gang.weak(0, year, wind, 1), least);
        Check.due("weak(0, " + year + ", " + wind + ", 2)", gang.weak(0, year, wind, 2), wanting);
    }

    private static void eightBands() {
        Check.says(0, "BANDS of iron: of a CHIMNEY at most 8,");
        ChimneyGang gang = Check.told("chimney 200;chimney 200;");
        for (int many = 1; many <= 8; many++) {
            Check.due("band " + many, gang.band(0, 0, 0, 9, 0), many);
            Check.due("together", gang.weak(0, 0, 13, 2), 13 * 199 - 9 * many);
        }
        Check.due("the 9th", gang.band(0, 0, 0, 9999, 0), -1);
        Check.due("it isn't there", gang.weak(0, 0, 13, 2), 13 * 199 - 72);
        for (int many = 1; many <= 8; many++) {
            Check.due("the other one's band " + many, gang.band(1, 199, 300, 1, 0), many);
        }
        Check.due("its 9th", gang.band(1, 0, 0, 1, 0), -1);
        Check.due("of its own", gang.weak(0, 0, 13, 2), 13 * 199 - 72);
        ChimneyGang twelve = Check.told(Check.times("chimney 9;", 12));
        for (int chimney = 11; chimney >= 0; chimney--) {
            for (int many = 1; many <= 8; many++) {
                Check.due("band " + many + " of " + chimney, twelve.band(chimney, 0, many, 1 + chimney, 1), many);
            }
        }
        for (int chimney = 0; chimney < 12; chimney++) {
            int holds = 0;
            for (int many = 1; many <= 8; many++) {
                holds += Math.max(0, 1 + chimney - (8 - many));
            }
            Check.due("wanting of " + chimney, twelve.weak(chimney, 8, 13, 2), Math.max(13 * 2, 13 * 8 - holds));
        }
    }

    private static void bandsAsTold() {
        Check.says(0, "each at a COURSE (from 0), of a year (0 to 300), a PULL (1 to 9999), a RUST (0 to 999):");
        ChimneyGang gang = Check.told("chimney 40;chimney 1;");
        Check.due("the least of each", gang.band(0, 0, 0, 1, 0), 1);
        weakIs(gang, 0, 13, 39, 0, 13 * 39 - 1);
        Check.due("the greatest of each", gang.band(0, 39, 300, 9999, 999), 2);
        weakIs(gang, 300, 13, 34, 0, 13 * 39 - 1);
        weakIs(gang, 310, 1, 34, 0, 38);
        weakIs(gang, 311, 1, 39, 0, 38);
        Check.due("of one course", gang.band(1, 0, 1, 1, 1), 1);
    }

    private static void holdsLessByRust() {
        Check.says(0, "in a year it HOLDS its PULL less RUST for each year since its own (0 at least; 0 ahead of its year).");
        ChimneyGang gang = of(5);
        gang.band(0, 2, 100, 10, 3);
        weakIs(gang, 0, 2, 4, 0, 8);
        weakIs(gang, 99, 2, 4, 0, 8);
        weakIs(gang, 100, 2, 0, -1, 0);
        weakIs(gang, 101, 2, 1, 0, 1);
        weakIs(gang, 102, 2, 2, 0, 4);
        weakIs(gang, 103, 2, 4, 0, 7);
        weakIs(gang, 104, 2, 4, 0, 8);
        weakIs(gang, 500, 2, 4, 0, 8);
        ChimneyGang even = of(5);
        even.band(0, 2, 0, 8, 0);
        weakIs(even, 500, 2, 0, -1, 0);
        even.band(0, 2, 0, 1, 999);
        weakIs(even, 500, 2, 0, -1, 0);
        ChimneyGang gone = of(5);
        gone.band(0, 2, 0, 9990, 999);
        weakIs(gone, 9, 13, 0, -1, 0);
        weakIs(gone, 10, 13, 4, 0, 52);
    }

    private static void bearsBandsNear() {
        Check.says(0, "A COURSE BEARS in a year what BANDS no further than 5 COURSES from it HOLD together,");
        ChimneyGang gang = of(20);
        gang.band(0, 7, 0, 100, 0);
        weakIs(gang, 0, 1, 2 + 6, 0, 19);
        gang.band(0, 5, 0, 5, 0);
        weakIs(gang, 0, 1, 2 + 6, 0, 14);
        gang.band(0, 0, 0, 14, 0);
        weakIs(gang, 0, 1, 6, 13, 6);
        gang.band(0, 18, 0, 5, 0);
        weakIs(gang, 0, 1, 1, 13, 1);
        ChimneyGang top = of(20);
        top.band(0, 19, 0, 100, 0);
        weakIs(top, 0, 1, 14, 0, 19);
        ChimneyGang foot = of(20);
        foot.band(0, 0, 0, 100, 0);
        weakIs(foot, 0, 1, 13, 6, 13);
        ChimneyGang all = of(11);
        all.band(0, 5, 0, 100, 0);
        weakIs(all, 0, 1, 0, -1, 0);
    }

    private static void bearsMortar() {
        Check.says(0, "and the MORTAR of the CHIMNEY (0 to 9999; 0 at first);");
        ChimneyGang gang = of(11);
        weakIs(gang, 0, 5, 10, 0, 50);
        gang.mortar(0, 25);
        weakIs(gang, 0, 5, 5, 0, 25);
        gang.band(0, 0, 0, 10, 0);
        weakIs(gang, 0, 5, 3, 0, 15);
        gang.mortar(1, 9999);
        weakIs(gang, 0, 5, 3, 0, 15);
        gang.mortar(0, 9999);
        weakIs(gang, 500, 13, 0, -1, 0);
        gang.mortar(0, 0);
        weakIs(gang, 0, 5, 10, 0, 40);
    }

    private static void loads() {
        Check.says(0, "its LOAD by a WIND (0 to 13) is the WIND by how many COURSES are above it.");
        ChimneyGang gang = of(20);
        weakIs(gang, 0, 0, 0, -1, 0);
        weakIs(gang, 0, 1, 19, 0, 19);
        weakIs(gang, 0, 13, 19, 0, 247);
        gang.band(0, 0, 0, 9999, 0);
        weakIs(gang, 0, 13, 13, 6, 13 * 13);
        Check.due("one course has no load", gang.weak(1, 0, 13, 0), 0);
        ChimneyGang two = of(2);
        weakIs(two, 0, 1, 1, 0, 1);
        ChimneyGang high = of(200);
        weakIs(high, 0, 13, 199, 0, 13 * 199);
        weakIs(high, 0, 0, 0, -1, 0);
        Check.due("200 courses without wind", high.lasts(0, 0, 0), -1);
    }

    private static void weakOnes() {
        Check.says(0, "WEAK are COURSES that BEAR less than their LOAD.");
        ChimneyGang gang = of(20);
        gang.mortar(0, 30);
        weakIs(gang, 0, 3, 9, 0, 27);
        weakIs(gang, 0, 2, 4, 0, 8);
        gang.mortar(0, 37);
        weakIs(gang, 0, 2, 1, 0, 1);
        gang.mortar(0, 38);
        weakIs(gang, 0, 2, 0, -1, 0);
    }

    private static void newBands() {
        Check.says(0, "NEW BANDS: the fewest of one PULL, put in in that year, with which none is WEAK (some may be at one COURSE).");
        ChimneyGang gang = of(20);
        Check.due("two reach all but the top", gang.bands(0, 0, 1, 19), 2);
        Check.due("one short at the foot", gang.bands(0, 0, 1, 18), 3);
        Check.due("many small ones", gang.bands(0, 0, 1, 1), 27);
        gang.mortar(0, 8);
        Check.due("the upper half bears", gang.bands(0, 0, 1, 11), 1);
        Check.due("less pull", gang.bands(0, 0, 1, 10), 2);
        gang.band(0, 0, 10, 11, 1);
        Check.due("ahead of its year", gang.bands(0, 9, 1, 5), 3);
        Check.due("in its year: courses 6 to 10", gang.bands(0, 10, 1, 5), 1);
        Check.due("five years on: one as high as it helps the foot", gang.bands(0, 15, 1, 5), 1);
        Check.due("six years on", gang.bands(0, 16, 1, 5), 2);
        ChimneyGang short5 = of(5);
        Check.due("all at one course", short5.bands(0, 0, 5, 1), 20);
        Check.due("whole ones", short5.bands(0, 0, 5, 19), 2);
        Check.due("just enough", short5.bands(0, 0, 5, 20), 1);
        ChimneyGang twelve = of(12);
        Check.due("eleven courses by one", twelve.bands(0, 0, 1, 11), 1);
        ChimneyGang thirteen = of(13);
        Check.due("not twelve", thirteen.bands(0, 0, 1, 12), 2);
        for (int i = 0; i < 8; i++) {
            thirteen.band(0, 0, 0, 1, 0);
        }
        Check.due("though it has eight already", thirteen.bands(0, 0, 2, 8), 3);
    }

    private static void band() {
        Check.says(34, "A BAND: how many the CHIMNEY has.");
        ChimneyGang gang = Check.told("chimney 40;chimney 3;");
        Check.due("the first", gang.band(0, 39, 300, 9999, 999), 1);
        Check.due("the second", gang.band(0, 0, 0, 1, 0), 2);
        Check.due("the other one's first", gang.band(1, 2, 0, 1, 0), 1);
        Check.due("the third", gang.band(0, 0, 0, 1, 0), 3);
    }

    private static void bandNot() {
        Check.says(34, "NONE: it has 8, not as told.");
        ChimneyGang gang = of(40);
        int[][] not = {{-1, 0, 1, 0}, {40, 0, 1, 0}, {200, 0, 1, 0}, {0, -1, 1, 0}, {0, 301, 1, 0}, {0, 0, 0, 0}, {0, 0, -1, 0},
            {0, 0, 10000, 0}, {0, 0, 1, -1}, {0, 0, 1, 1000}, {Integer.MAX_VALUE, 0, 1, 0}, {Integer.MIN_VALUE, 0, 1, 0},
            {0, Integer.MIN_VALUE, 1, 0}, {0, Integer.MAX_VALUE, 1, 0}, {0, 0, Integer.MIN_VALUE, 0},
            {0, 0, Integer.MAX_VALUE, 0}, {0, 0, 1, Integer.MIN_VALUE}, {0, 0, 1, Integer.MAX_VALUE}};
        for (int[] it : not) {
            Check.due("not as told", gang.band(0, it[0], it[1], it[2], it[3]), -1);
        }
        Check.due("of one course", gang.band(1, 1, 1, 1, 1), -1);
        Check.due("none of these", gang.weak(0, 300, 13, 2), 13 * 39);
        for (int many = 1; many <= 8; many++) {
            Check.due("band " + many, gang.band(0, 1, 1, 1, 1), many);
        }
        Check.due("it has 8", gang.band(0, 1, 1, 1, 1), -1);
        Check.due("and again", gang.band(0, 1, 1, 1, 1), -1);
        Check.missing("the chimney comes first", () -> gang.band(-1, 99, 999, 0, -1));
    }

    private static void mortar() {
        Check.says(35, "Its MORTAR: true.");
        ChimneyGang gang = of(20);
        for (int much : new int[] {0, 9999, 1, 246}) {
            Check.due("mortar(0, " + much + ")", gang.mortar(0, much), true);
            Check.due("what is wanting", gang.weak(0, 0, 13, 2), Math.max(0, 247 - much));
        }
        Check.due("of the other one", gang.mortar(1, 5), true);
        Check.due("what is wanting", gang.weak(0, 0, 13, 2), 1);
    }

    private static void mortarNot() {
        Check.says(35, "False: not as told.");
        ChimneyGang gang = of(20);
        gang.mortar(0, 240);
        for (int not : new int[] {-1, 10000, Integer.MIN_VALUE, Integer.MAX_VALUE}) {
            Check.due("mortar(0, " + not + ")", gang.mortar(0, not), false);
            Check.due("what is wanting", gang.weak(0, 0, 13, 2), 7);
            Check.missing("the chimney comes first", () -> gang.mortar(2, not));
        }
    }

    private static void weak() {
        Check.says(36, "WEAK COURSES in a year (0 to 500) by a WIND: how many (what 0), the least (1; NONE), the greatest that is "
            + "wanting (2).");
        ChimneyGang gang = of(20);
        weakIs(gang, 0, 13, 19, 0, 247);
        weakIs(gang, 500, 13, 19, 0, 247);
        weakIs(gang, 0, 0, 0, -1, 0);
        gang.band(0, 0, 0, 250, 0);
        weakIs(gang, 0, 13, 13, 6, 169);
        gang.band(0, 6, 0, 150, 0);
        weakIs(gang, 0, 13, 2 + 7, 6, 13 * 7);
        gang.band(0, 17, 0, 999, 0);
        weakIs(gang, 0, 13, 2, 6, 19);
    }

    private static void weakMissing() {
        Check.says(36, "NoSuchElementException: also another what.");
        ChimneyGang gang = of(5);
        for (int what : new int[] {-1, 3, Integer.MIN_VALUE, Integer.MAX_VALUE}) {
            Check.missing("weak(0, 0, 0, " + what + ")", () -> gang.weak(0, 0, 0, what));
        }
    }

    private static void weakRefused() {
        Check.says(36, "IllegalArgumentException (behind that): the year, the WIND.");
        ChimneyGang gang = of(5);
        for (int year : new int[] {-1, 501, Integer.MIN_VALUE, Integer.MAX_VALUE}) {
            Check.refused("weak: year " + year, () -> gang.weak(0, year, 0, 0));
            Check.missing("another what, ahead", () -> gang.weak(0, year, 0, 3));
            Check.missing("another chimney, ahead", () -> gang.weak(2, year, 0, 0));
        }
        for (int wind : new int[] {-1, 14, Integer.MIN_VALUE, Integer.MAX_VALUE}) {
            Check.refused("weak: wind " + wind, () -> gang.weak(0, 0, wind, 0));
            Check.missing("another what, ahead", () -> gang.weak(0, 0, wind, -1));
            Check.missing("another chimney, ahead", () -> gang.weak(-1, 0, wind, 0));
        }
    }

    private static void lasts() {
        Check.says(37, "The first year from one (0 to 500) on, 100 further at most, in which some COURSE is WEAK; NONE.");
        ChimneyGang gang = of(5);
        Check.due("weak at once", gang.lasts(0, 7, 1), 7);
        Check.due("in year 0", gang.lasts(0, 0, 1), 0);
        Check.due("in year 500", gang.lasts(0, 500, 13), 500);
        Check.due("without wind", gang.lasts(0, 7, 0), -1);
        gang.band(0, 2, 100, 104, 1);
        Check.due("weak ahead of its year", gang.lasts(0, 99, 1), 99);
        Check.due("the hundredth year further", gang.lasts(0, 101, 1), 201);
        Check.due("no further", gang.lasts(0, 100, 1), -1);
        Check.due("from the year itself", gang.lasts(0, 201, 1), 201);
        ChimneyGang late = of(5);
        late.band(0, 2, 300, 9999, 36);
        Check.due("in year 577", late.lasts(0, 500, 7), 577);
        Check.due("the last year to begin in", late.lasts(0, 500, 1), 578);
        late.mortar(0, 9);
        Check.due("mortar alone", late.lasts(0, 0, 2), -1);
        ChimneyGang six = of(5);
        six.band(0, 2, 300, 304, 1);
        Check.due("year 600, a hundred further", six.lasts(0, 500, 1), -1);
        Check.due("year 600 by more wind", six.lasts(0, 500, 2), 597);
        six.mortar(0, 3);
        six.band(0, 2, 300, 300, 1);
        Check.due("one band less than the wind by itself", six.lasts(0, 500, 1), -1);
        ChimneyGang last = of(5);
        last.band(0, 2, 300, 303, 1);
        Check.due("in year 600", last.lasts(0, 500, 1), 600);
        Check.due("not in year 599", last.lasts(0, 499, 1), -1);
    }

    private static void lastsRefused() {
        Check.says(37, "IllegalArgumentException likewise.");
        ChimneyGang gang = of(5);
        for (int year : new int[] {-1, 501, Integer.MIN_VALUE, Integer.MAX_VALUE}) {
            Check.refused("lasts: year " + year, () -> gang.lasts(0, year, 0));
            Check.missing("another chimney, ahead", () -> gang.lasts(2, year, 0));
        }
        for (int wind : new int[] {-1, 14, Integer.MIN_VALUE, Integer.MAX_VALUE}) {
            Check.refused("lasts: wind " + wind, () -> gang.lasts(0, 0, wind));
            Check.missing("another chimney, ahead", () -> gang.lasts(-1, 0, wind));
        }
    }

    private static void bands() {
        Check.says(38, "NEW BANDS.");
        ChimneyGang gang = of(20);
        Check.due("without wind", gang.bands(0, 0, 0, 1), 0);
        Check.due("of the least pull", gang.bands(0, 500, 13, 1), 13 * 19 + 13 * 8);
        Check.due("of the greatest pull", gang.bands(0, 0, 13, 9999), 2);
        Check.due("nothing was put in", gang.weak(0, 0, 13, 0), 19);
        Check.due("nor counts as a band", gang.band(0, 0, 0, 1, 0), 1);
        Check.due("one course", gang.bands(1, 0, 13, 1), 0);
        ChimneyGang high = of(200);
        Check.due("200 courses", high.bands(0, 0, 13, 9999), 19);
        int ones = 0;
        for (int foot = 0; foot < 199; foot += 11) {
            ones += 13 * (199 - foot);
        }
        Check.due("200 courses by ones", high.bands(0, 0, 13, 1), ones);
    }

    private static void bandsRefused() {
        Check.says(38, "IllegalArgumentException: also a PULL that is not as told.");
        ChimneyGang gang = of(5);
        for (int pull : new int[] {0, -1, 10000, Integer.MIN_VALUE, Integer.MAX_VALUE}) {
            Check.refused("bands: pull " + pull, () -> gang.bands(0, 0, 0, pull));
            Check.missing("another chimney, ahead", () -> gang.bands(2, 0, 0, pull));
        }
        for (int year : new int[] {-1, 501, Integer.MIN_VALUE, Integer.MAX_VALUE}) {
            Check.refused("bands: year " + year, () -> gang.bands(0, year, 0, 1));
            Check.missing("another chimney, ahead", () -> gang.bands(-1, year, 0, 1));
        }
        for (int wind : new int[] {-1, 14, Integer.MIN_VALUE, Integer.MAX_VALUE}) {
            Check.refused("bands: wind " + wind, () -> gang.bands(0, 0, wind, 1));
            Check.missing("another chimney, ahead", () -> gang.bands(2, 0, wind, 1));
        }
    }
}
