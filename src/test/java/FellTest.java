/** Promises 20 to 22: a foot of bricks, cuts, and the fewest bricks. */
public final class FellTest {
    private static final int ALL = 65535;

    private FellTest() {
    }

    public static void main(String[] args) {
        sentences();
        Check.end();
    }

    static void sentences() {
        bricks();
        centre();
        threeAtLeast();
        nextRoundAbout();
        inside();
        brickByBrick();
        theGap();
        badly();
        towards();
        between();
        fewest();
        stands();
        standsRefused();
        cut();
        cutRefused();
        fell();
        fellNone();
        fellRefused();
    }

    private static int[] brick(int k) {
        int[][] first = {{100, 0}, {92, 38}, {71, 71}, {38, 92}};
        int[] at = first[k % 4];
        for (int turns = 0; turns < k / 4; turns++) {
            at = new int[] {-at[1], at[0]};
        }
        return at;
    }

    private static boolean isInside(int[] a, int[] b, int x, int y) {
        return (b[0] - a[0]) * (y - a[1]) - (b[1] - a[1]) * (x - a[0]) > 0;
    }

    private static void bricks() {
        Check.says(0, "FELLING: a foot of 16 BRICKS round about: BRICKS 0 to 3 are at (100, 0), (92, 38), (71, 71), (38, 92), "
            + "each four further on by a quarter turn: BRICK k + 4 is at (-y, x), if BRICK k is at (x, y).");
        for (int k = 0; k < 16; k++) {
            ChimneyGang gang = new ChimneyGang();
            int[] three = {k, (k + 5) % 16, (k + 11) % 16};
            int bits = 1 << three[0] | 1 << three[1] | 1 << three[2];
            for (int x = -95; x <= 95; x += 10) {
                for (int y = -95; y <= 95; y += 10) {
                    boolean due = true;
                    for (int i = 0; i < 3; i++) {
                        due = due && isInside(brick(three[i]), brick(three[(i + 1) % 3]), x, y);
                    }
                    Check.due("stands on " + bits + " by (" + x + ", " + y + ")", gang.stands(bits, x, y), due);
                }
            }
        }
        edgesOfAllBricks();
    }

    /** Along the edge of two neighbours, one millimetre in and one out, as far as centres go. */
    private static void edgesOfAllBricks() {
        for (int k = 0; k < 16; k++) {
            ChimneyGang gang = new ChimneyGang();
            int[] a = brick(k);
            int[] b = brick((k + 1) % 16);
            for (int i = 0; i <= 10; i++) {
                int x = a[0] + (b[0] - a[0]) * i / 10;
                int y = a[1] + (b[1] - a[1]) * i / 10;
                for (int by = -1; by <= 1; by++) {
                    for (int bx = -1; bx <= 1; bx++) {
                        askAll(gang, x + bx, y + by);
                    }
                }
            }
        }
    }

    private static void askAll(ChimneyGang gang, int x, int y) {
        if (Math.abs(x) > 95 || Math.abs(y) > 95) {
            return;
        }
        boolean due = true;
        for (int k = 0; k < 16; k++) {
            due = due && isInside(brick(k), brick((k + 1) % 16), x, y);
        }
        Check.due("stands on all by (" + x + ", " + y + ")", gang.stands(ALL, x, y), due);
    }

    private static void centre() {
        Check.says(0, "The CENTRE (each of -95 to 95) is where its weight is.");
        ChimneyGang gang = new ChimneyGang();
        Check.due("far out", gang.stands(ALL, 95, 0), true);
        Check.due("far out", gang.stands(ALL, -95, 0), true);
        Check.due("far out", gang.stands(ALL, 0, 95), true);
        Check.due("far out", gang.stands(ALL, 0, -95), true);
        Check.due("in the corner", gang.stands(ALL, -95, -95), false);
        Check.due("in the corner", gang.stands(ALL, 95, 95), false);
        Check.due("in the corner", gang.stands(ALL, -95, 95), false);
        Check.due("in the corner", gang.stands(ALL, 95, -95), false);
    }

    private static void threeAtLeast() {
        Check.says(0, "It STANDS on some BRICKS, three at least,");
        ChimneyGang gang = new ChimneyGang();
        Check.due("on none", gang.stands(0, 0, 0), false);
        for (int k = 0; k < 16; k++) {
            Check.due("on one", gang.stands(1 << k, 0, 0), false);
            Check.due("on two", gang.stands(1 << k | 1 << (k + 8) % 16, 0, 0), false);
            Check.due("on two, beside their line", gang.stands(1 | 1 << 8, 0, 1), false);
            Check.due("on three", gang.stands(1 << k | 1 << (k + 5) % 16 | 1 << (k + 11) % 16, 0, 0), true);
        }
    }

    private static void nextRoundAbout() {
        Check.says(0, "if for each of them, at a, and the next one of them round about, at b (by numbers, behind the greatest "
            + "the least),");
        ChimneyGang gang = new ChimneyGang();
        Check.due("without brick 0: from 15 to 1", gang.stands(ALL - 1, 92, 0), false);
        Check.due("inside of that edge", gang.stands(ALL - 1, 91, 0), true);
        Check.due("without brick 15: from 14 to 0", gang.stands(ALL - (1 << 15), 86, -35), false);
        Check.due("inside of that edge", gang.stands(ALL - (1 << 15), 85, -35), true);
        Check.due("and on all", gang.stands(ALL, 86, -35), true);
        Check.due("without brick 8: from 7 to 9", gang.stands(ALL - 256, -92, 0), false);
        Check.due("inside of that edge", gang.stands(ALL - 256, -91, 0), true);
        Check.due("of 4, 8, 12: from 12 to 4", gang.stands(0x1110, 0, 0), false);
        Check.due("on its inner side", gang.stands(0x1110, -1, 0), true);
        Check.due("on its outer side", gang.stands(0x1110, 1, 0), false);
    }

    private static void inside() {
        Check.says(0, "the CENTRE c is INSIDE: (bx - ax)(cy - ay) - (by - ay)(cx - ax) is above 0.");
        ChimneyGang gang = new ChimneyGang();
        Check.due("on a line: not inside", gang.stands(1 | 1 << 4 | 1 << 8, 0, 0), false);
        Check.due("just beside it", gang.stands(1 | 1 << 4 | 1 << 8, 0, 1), true);
        Check.due("and on its other side", gang.stands(1 | 1 << 4 | 1 << 8, 0, -1), false);
        Check.due("on the four quarters, on their line", gang.stands(0x1111, 50, 50), false);
        Check.due("and inside of it", gang.stands(0x1111, 50, 49), true);
        Check.due("and outside of it", gang.stands(0x1111, 50, 51), false);
        Check.due("on three of one half", gang.stands(7, 0, 0), false);
        Check.due("by 1 from 0 to 2", gang.stands(ALL - 2, 91, 22), true);
        Check.due("by 1 from 0 to 6", gang.stands(ALL - 62, 47, 22), true);
        Check.due("by 1 from 2 to 4", gang.stands(ALL - 8, 22, 91), true);
        Check.due("by -2 from 0 to 1", gang.stands(ALL, 95, 24), false);
        Check.due("by 36 from 0 to 1", gang.stands(ALL, 94, 24), true);
    }

    private static void brickByBrick() {
        Check.says(0, "A CUT: n BRICKS (1 to 12) from BRICK k on (numbers MOD 16) are taken out one behind the other, each then has "
            + "a PROP in its place that holds as it did: when one is taken out it must STAND on all others and PROPS.");
        ChimneyGang gang = new ChimneyGang();
        Check.due("one brick", gang.cut(3, 1, 0, 0), -2);
        Check.due("twelve bricks, each with a prop", gang.cut(0, 12, 0, 0), 6);
        Check.due("from 15 over 0", gang.cut(15, 3, 75, 0), 0);
        // by (92, 0) it doesn't stand when brick 0 is out, though it would without two or three beside it
        for (int k = 0; k < 16; k++) {
            for (int n = 1; n <= 12; n++) {
                boolean takesBrick0 = k == 0 || k + n > 16;
                Check.due("cut(" + k + ", " + n + ", 92, 0) can't be made", gang.cut(k, n, 92, 0) == -1, takesBrick0);
            }
        }
        Check.due("it never stood", gang.cut(4, 1, 95, 95), -1);
        Check.due("brick 0 by itself", new ChimneyGang().cut(0, 1, 91, 0), -2);
    }

    private static void theGap() {
        Check.says(0, "Then all PROPS burn. THE GAP is from the BRICK ahead of k, at a, to that behind the last one, at b.");
        ChimneyGang gang = new ChimneyGang();
        Check.due("from 12 to 4: a line through the centre", gang.cut(13, 7, 0, 0), 0);
        Check.due("a little inside of it", gang.cut(13, 7, -1, 0), -2);
        Check.due("from 12 to 3", gang.cut(13, 6, 0, 0), -2);
        Check.due("from 15 to 1: never, as it stood without 0", gang.cut(0, 1, 91, 0), -2);
        Check.due("from 15 to 2, just behind the line", gang.cut(0, 2, 72, 66), 0);
        Check.due("from 15 to 2, just ahead of it", gang.cut(0, 2, 72, 65), -2);
        Check.due("from 15 to 2, ahead of it", gang.cut(0, 2, 91, -35), -2);
        Check.due("from 0 to 6: inside by 1", gang.cut(1, 5, 47, 22), -2);
        Check.due("from 0 to 6: behind it", gang.cut(1, 5, 47, 23), 3);
        Check.due("from 1 to 14, over twelve: inside by 1", gang.cut(2, 12, 87, 12), -2);
        Check.due("from 11 to 5: behind the line", gang.cut(12, 9, -37, 0), 0);
        Check.due("from 11 to 5: on the line", gang.cut(12, 9, -38, 0), 0);
        Check.due("from 11 to 5: ahead of it", gang.cut(12, 9, -39, 0), -2);
    }

    private static void badly() {
        Check.says(0, "If for some other two next ones of those that are left the CENTRE isn't INSIDE, it FALLS BADLY; else, if it "
            + "is INSIDE of THE GAP, it STANDS still;");
        // that it stood when its first brick was out asks already that the centre is inside of all other two next ones
        NaiveGang naive = new NaiveGang();
        for (int x = -95; x <= 95; x += 19) {
            for (int y = -95; y <= 95; y += 19) {
                ChimneyGang gang = new ChimneyGang();
                for (int k = 0; k < 16; k++) {
                    for (int n = 1; n <= 12; n++) {
                        int got = gang.cut(k, n, x, y);
                        String call = "cut(" + k + ", " + n + ", " + x + ", " + y + ")";
                        Check.due(call, got, naive.cut(k, n, x, y));
                        Check.due(call + " falls badly", got == -3, false);
                        Check.due(call + " falls though one brick is spare", n == 1 && got >= 0, false);
                    }
                }
            }
        }
    }

    private static void towards() {
        Check.says(0, "else it FALLS by (by - ay, ax - bx): TOWARDS the one of all 16 BRICKS for which its x by the first of these "
            + "and its y by the second, together, is most (of like ones the least).");
        ChimneyGang gang = new ChimneyGang();
        int[] from0 = {3, 4, 4, 4, 5, 6};
        int[] from1 = {4, 4, 5, 6, 6, 6};
        int[] from11 = {14, 14, 15, 0, 0, 0};
        for (int n = 7; n <= 12; n++) {
            Check.due("cut(0, " + n + ", 0, 0)", gang.cut(0, n, 0, 0), from0[n - 7]);
            Check.due("cut(1, " + n + ", 0, 0)", gang.cut(1, n, 0, 0), from1[n - 7]);
            Check.due("cut(11, " + n + ", 0, 0)", gang.cut(11, n, 0, 0), from11[n - 7]);
        }
        for (int k = 0; k < 16; k++) {
            Check.due("seven round brick " + (k + 3) % 16, gang.cut(k, 7, 0, 0), (k + 3) % 16);
            Check.due("nine round brick " + (k + 4) % 16, gang.cut(k, 9, 0, 0), (k + 4) % 16);
            Check.due("eleven round brick " + (k + 5) % 16, gang.cut(k, 11, 0, 0), (k + 5) % 16);
        }
        for (int n = 1; n <= 12; n++) {
            int fall = gang.cut(2, n, 31, 17);
            int turned = gang.cut(6, n, -17, 31);
            Check.due("cut(6, " + n + ", ..) turned", turned, fall < 0 ? fall : (fall + 4) % 16);
        }
    }

    private static void between() {
        Check.says(0, "BETWEEN two BRICKS f and t are those from f on upwards (MOD 16) to t, both counted.");
        ChimneyGang gang = new ChimneyGang();
        int[][] due = {{0, 15, 112}, {5, 4, 112}, {3, 3, 112}, {3, 4, 112}, {2, 3, 112}, {4, 4, 113}, {4, 2, 113}, {4, 3, 112},
            {15, 15, 124}, {15, 1, 124}, {0, 1, 125}, {15, 0, 124}, {2, 2, 127}, {8, 8, 117}};
        for (int[] it : due) {
            Check.due("fell(" + it[0] + ", " + it[1] + ", 0, 0)", gang.fell(it[0], it[1], 0, 0), it[2]);
        }
    }

    private static void fewest() {
        Check.says(0, "FEWEST: the CUT of fewest BRICKS by which it FALLS TOWARDS one BETWEEN, of like ones the least k.");
        ChimneyGang gang = new ChimneyGang();
        int[][] due = {{0, 0, 75, 0, 63}, {15, 1, 75, 0, 63}, {1, 15, 75, 0, 64}, {15, 15, 75, 0, 93}, {2, 2, 75, 0, 64},
            {9, 7, 75, 0, 63}, {8, 8, 75, 0, 194}, {12, 4, -60, 20, 98}, {6, 10, -60, 20, 69}, {0, 7, 91, 0, 32},
            {0, 0, 91, 0, 32}, {2, 14, 92, 0, 113}};
        for (int[] it : due) {
            Check.due("fell(" + it[0] + ", " + it[1] + ", " + it[2] + ", " + it[3] + ")", gang.fell(it[0], it[1], it[2], it[3]),
                it[4]);
        }
    }

    private static void stands() {
        Check.says(20, "Whether it STANDS on BRICKS (bits), by a CENTRE.");
        ChimneyGang gang = new ChimneyGang();
        Check.due("on all", gang.stands(ALL, 0, 0), true);
        Check.due("on 0, 5 and 11", gang.stands(1 | 32 | 2048, 0, 0), true);
        Check.due("bits that are no bricks count for nothing", gang.stands(-1, 0, 0), true);
        Check.due("nor make three of two", gang.stands(1 | 1 << 8 | 1 << 20, 0, 5), false);
        Check.due("nor stand for others", gang.stands(ALL << 16, 0, 0), false);
        Check.due("the least number", gang.stands(Integer.MIN_VALUE, 0, 0), false);
    }

    private static void standsRefused() {
        Check.says(20, "IllegalArgumentException: the CENTRE is not as told.");
        ChimneyGang gang = new ChimneyGang();
        for (int not : new int[] {-96, 96, 1000, Integer.MIN_VALUE, Integer.MAX_VALUE}) {
            Check.refused("x " + not, () -> gang.stands(ALL, not, 0));
            Check.refused("y " + not, () -> gang.stands(ALL, 0, not));
            Check.refused("both, on no bricks", () -> gang.stands(0, not, not));
        }
    }

    private static void cut() {
        Check.says(21, "A CUT of n BRICKS from k on: TOWARDS which BRICK it FALLS; NONE: it didn't STAND while it was CUT; -2: it "
            + "STANDS still; -3: it FALLS BADLY.");
        ChimneyGang gang = new ChimneyGang();
        Check.due("the least k and n", gang.cut(0, 1, 0, 0), -2);
        Check.due("the greatest k and n", gang.cut(15, 12, 0, 0), 4);
        Check.due("it falls", gang.cut(15, 3, 75, 0), 0);
        Check.due("it stands still", gang.cut(7, 3, 75, 0), -2);
        Check.due("it didn't stand", gang.cut(15, 3, 92, 0), -1);
        Check.due("nor when the last one was out", gang.cut(14, 3, 92, 0), -1);
        Check.due("it does, if brick 0 stays", gang.cut(13, 3, 92, 0), -2);
        Check.due("it never stood", gang.cut(8, 1, 95, 95), -1);
    }

    private static void cutRefused() {
        Check.says(21, "IllegalArgumentException: k is not 0 to 15, n not 1 to 12, the CENTRE.");
        ChimneyGang gang = new ChimneyGang();
        for (int k : new int[] {-1, 16, Integer.MIN_VALUE, Integer.MAX_VALUE}) {
            Check.refused("k " + k, () -> gang.cut(k, 1, 0, 0));
        }
        for (int n : new int[] {0, 13, -1, 16, Integer.MIN_VALUE, Integer.MAX_VALUE}) {
            Check.refused("n " + n, () -> gang.cut(0, n, 0, 0));
        }
        for (int not : new int[] {-96, 96, Integer.MIN_VALUE, Integer.MAX_VALUE}) {
            Check.refused("x " + not, () -> gang.cut(0, 1, not, 0));
            Check.refused("y " + not, () -> gang.cut(0, 1, 0, not));
        }
        Check.due("the ends of x", gang.cut(8, 1, 95, 0), -2);
        Check.due("the ends of y", gang.cut(8, 1, 0, -95), -2);
    }

    private static void fell() {
        Check.says(22, "FEWEST, BETWEEN two BRICKS: 16 n and k;");
        ChimneyGang gang = new ChimneyGang();
        Check.due("three from 15 on", gang.fell(0, 0, 75, 0), 16 * 3 + 15);
        Check.due("seven from 0 on", gang.fell(0, 15, 0, 0), 16 * 7);
        Check.due("twelve from 2 on", gang.fell(8, 8, 75, 0), 16 * 12 + 2);
    }

    private static void fellNone() {
        Check.says(22, "NONE: there is none.");
        ChimneyGang gang = new ChimneyGang();
        Check.due("it never stood", gang.fell(0, 15, 95, 95), -1);
        Check.due("it never stood, for one edge alone", gang.fell(0, 15, 95, 24), -1);
        Check.due("never so far", gang.fell(8, 8, 95, 0), -1);
        Check.due("never so near", gang.fell(0, 0, 92, 0), -1);
        Check.due("never so near", gang.fell(15, 1, 92, 0), -1);
    }

    private static void fellRefused() {
        Check.says(22, "IllegalArgumentException: these are not 0 to 15, the CENTRE.");
        ChimneyGang gang = new ChimneyGang();
        for (int not : new int[] {-1, 16, Integer.MIN_VALUE, Integer.MAX_VALUE}) {
            Check.refused("from " + not, () -> gang.fell(not, 0, 0, 0));
            Check.refused("to " + not, () -> gang.fell(0, not, 0, 0));
        }
        for (int not : new int[] {-96, 96, Integer.MIN_VALUE, Integer.MAX_VALUE}) {
            Check.refused("x " + not, () -> gang.fell(0, 0, not, 0));
            Check.refused("y " + not, () -> gang.fell(0, 0, 0, not));
        }
        Check.due("the ends of all", gang.fell(15, 15, -95, 0), -1);
        Check.due("the ends of all", gang.fell(0, 15, 0, 95), new NaiveGang().fell(0, 15, 0, 95));
    }
}
