/** Promises 34 to 38: bands of iron, mortar, weak courses, new bands. */
public final class BandTest {
    private BandTest() {
    }

    public static void main(String[] args) {
        bandsToldRight();
        mortar();
        loads();
        reach();
        rust();
        refused();
        lasts();
        newBands();
        Check.end();
    }

    private static ChimneyGang of(int courses) {
        return Check.told("chimney " + courses + "; chimney 1;");
    }

    /** Promise 34. */
    private static void bandsToldRight() {
        ChimneyGang gang = of(40);
        Check.due("the least", gang.band(0, 0, 0, 1, 0), 1);
        Check.due("the greatest", gang.band(0, 39, 300, 9999, 999), 2);
        int[][] not = {{-1, 0, 1, 0}, {40, 0, 1, 0}, {0, -1, 1, 0}, {0, 301, 1, 0}, {0, 0, 0, 0}, {0, 0, 10000, 0},
            {0, 0, 1, -1}, {0, 0, 1, 1000}};
        for (int[] it : not) {
            Check.due("not as told", gang.band(0, it[0], it[1], it[2], it[3]), -1);
        }
        for (int many = 3; many <= 8; many++) {
            Check.due("band " + many, gang.band(0, 1, 1, 1, 1), many);
        }
        Check.due("the 9th", gang.band(0, 1, 1, 1, 1), -1);
        Check.due("another chimney's", gang.band(1, 0, 1, 1, 1), 1);
        Check.due("of one course", gang.band(1, 1, 1, 1, 1), -1);
        Check.missing("chimney 2", () -> gang.band(2, 0, 0, 1, 0));
        Check.missing("chimney -1", () -> gang.band(-1, 99, 999, 0, -1));
    }

    /** Promise 35. */
    private static void mortar() {
        ChimneyGang gang = of(11);
        Check.due("none at first", gang.weak(0, 0, 5, 0), 10);
        Check.due("mortar(0, 25)", gang.mortar(0, 25), true);
        Check.due("weak", gang.weak(0, 0, 5, 0), 5);
        Check.due("mortar(0, -1)", gang.mortar(0, -1), false);
        Check.due("mortar(0, 10000)", gang.mortar(0, 10000), false);
        Check.due("weak still", gang.weak(0, 0, 5, 0), 5);
        Check.due("mortar(0, 9999)", gang.mortar(0, 9999), true);
        Check.due("none weak", gang.weak(0, 0, 13, 0), 0);
        Check.due("mortar(0, 0)", gang.mortar(0, 0), true);
        Check.due("weak again", gang.weak(0, 0, 5, 0), 10);
        Check.missing("chimney 2", () -> gang.mortar(2, 0) ? 1 : 0);
        Check.missing("chimney -1", () -> gang.mortar(-1, -1) ? 1 : 0);
    }

    private static void weakIs(ChimneyGang gang, int year, int wind, int many, int least, int wanting) {
        Check.due("weak(0, " + year + ", " + wind + ", 0)", gang.weak(0, year, wind, 0), many);
        Check.due("weak(0, " + year + ", " + wind + ", 1)", gang.weak(0, year, wind, 1), least);
        Check.due("weak(0, " + year + ", " + wind + ", 2)", gang.weak(0, year, wind, 2), wanting);
    }

    /** Promise 36: the foot has most above it, the top nothing. */
    private static void loads() {
        ChimneyGang gang = of(20);
        weakIs(gang, 0, 0, 0, -1, 0);
        weakIs(gang, 0, 1, 19, 0, 19);
        weakIs(gang, 0, 13, 19, 0, 247);
        gang.mortar(0, 30);
        weakIs(gang, 0, 3, 9, 0, 27);
        weakIs(gang, 0, 2, 4, 0, 8);
        gang.mortar(0, 38);
        weakIs(gang, 0, 2, 0, -1, 0);
        Check.due("one course has no load", gang.weak(1, 0, 13, 0), 0);
    }

    private static void reach() {
        ChimneyGang gang = of(20);
        gang.band(0, 7, 0, 100, 0);
        weakIs(gang, 0, 1, 2 + 6, 0, 19);
        gang.band(0, 5, 0, 5, 0);
        weakIs(gang, 0, 1, 2 + 6, 0, 14);
        gang.band(0, 0, 0, 14, 0);
        weakIs(gang, 0, 1, 6, 13, 6);
        gang.band(0, 18, 0, 5, 0);
        weakIs(gang, 0, 1, 1, 13, 1);
    }

    private static void rust() {
        ChimneyGang gang = of(5);
        gang.band(0, 2, 100, 10, 3);
        weakIs(gang, 99, 2, 4, 0, 8);
        weakIs(gang, 100, 2, 0, -1, 0);
        weakIs(gang, 101, 2, 1, 0, 1);
        weakIs(gang, 102, 2, 2, 0, 4);
        weakIs(gang, 103, 2, 4, 0, 7);
        weakIs(gang, 104, 2, 4, 0, 8);
        weakIs(gang, 500, 2, 4, 0, 8);
    }

    private static void refused() {
        ChimneyGang gang = of(5);
        Check.refused("year -1", () -> gang.weak(0, -1, 0, 0));
        Check.refused("year 501", () -> gang.weak(0, 501, 0, 0));
        Check.refused("wind -1", () -> gang.weak(0, 0, -1, 0));
        Check.refused("wind 14", () -> gang.weak(0, 0, 14, 0));
        Check.missing("what 3, ahead of the year", () -> gang.weak(0, 501, 0, 3));
        Check.missing("what -1", () -> gang.weak(0, 0, 14, -1));
        Check.missing("chimney 2", () -> gang.weak(2, 501, 0, 0));
        Check.refused("lasts: year -1", () -> gang.lasts(0, -1, 0));
        Check.refused("lasts: year 501", () -> gang.lasts(0, 501, 0));
        Check.refused("lasts: wind -1", () -> gang.lasts(0, 0, -1));
        Check.refused("lasts: wind 14", () -> gang.lasts(0, 0, 14));
        Check.missing("lasts: chimney 2", () -> gang.lasts(2, 501, 14));
        Check.missing("lasts: chimney -1", () -> gang.lasts(-1, 0, 0));
        Check.refused("bands: year -1", () -> gang.bands(0, -1, 0, 1));
        Check.refused("bands: year 501", () -> gang.bands(0, 501, 0, 1));
        Check.refused("bands: wind -1", () -> gang.bands(0, 0, -1, 1));
        Check.refused("bands: wind 14", () -> gang.bands(0, 0, 14, 1));
        Check.refused("bands: pull 0", () -> gang.bands(0, 0, 0, 0));
        Check.refused("bands: pull 10000", () -> gang.bands(0, 0, 0, 10000));
        Check.missing("bands: chimney 2", () -> gang.bands(2, 501, 14, 0));
        Check.missing("bands: chimney -1", () -> gang.bands(-1, 0, 0, 1));
    }

    /** Promise 37. */
    private static void lasts() {
        ChimneyGang gang = of(5);
        Check.due("weak at once", gang.lasts(0, 7, 1), 7);
        Check.due("without wind", gang.lasts(0, 7, 0), -1);
        gang.band(0, 2, 100, 104, 1);
        Check.due("weak ahead of its year", gang.lasts(0, 99, 1), 99);
        Check.due("the hundredth year further", gang.lasts(0, 101, 1), 201);
        Check.due("no further", gang.lasts(0, 100, 1), -1);
        Check.due("from the year itself", gang.lasts(0, 201, 1), 201);
        ChimneyGang late = of(5);
        late.band(0, 2, 300, 9999, 36);
        Check.due("in year 577", late.lasts(0, 500, 7), 577);
        Check.due("the last year to begin in", late.lasts(0, 500, 1), 578);
        late.mortar(0, 9);
        Check.due("mortar alone", late.lasts(0, 0, 2), -1);
    }

    /** Promise 38. */
    private static void newBands() {
        ChimneyGang gang = of(20);
        Check.due("without wind", gang.bands(0, 0, 0, 5), 0);
        Check.due("two reach all but the top", gang.bands(0, 0, 1, 19), 2);
        Check.due("one short at the foot", gang.bands(0, 0, 1, 18), 3);
        Check.due("many small ones", gang.bands(0, 0, 1, 1), 27);
        Check.due("of the greatest pull", gang.bands(0, 0, 13, 9999), 2);
        gang.mortar(0, 8);
        Check.due("the upper half bears", gang.bands(0, 0, 1, 11), 1);
        Check.due("less pull", gang.bands(0, 0, 1, 10), 2);
        gang.band(0, 0, 10, 11, 1);
        Check.due("ahead of its year", gang.bands(0, 9, 1, 5), 3);
        Check.due("in its year: courses 6 to 10", gang.bands(0, 10, 1, 5), 1);
        Check.due("five years on: one as high as it helps the foot", gang.bands(0, 15, 1, 5), 1);
        Check.due("six years on", gang.bands(0, 16, 1, 5), 2);
        Check.due("nothing was put in", gang.weak(0, 10, 1, 0), 5);
        Check.due("one course", gang.bands(1, 0, 13, 1), 0);
        Check.due("200 courses", Check.told("chimney 200;").bands(0, 0, 13, 9999), 19);
    }
}
