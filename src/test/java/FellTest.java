/** Promises 20 to 22: a foot of bricks, cuts, and the fewest bricks. */
public final class FellTest {
    private static final int ALL = 65535;

    private FellTest() {
    }

    public static void main(String[] args) {
        stands();
        centres();
        cuts();
        fewest();
        turnsAlike();
        Check.end();
    }

    /** Promise 20. */
    private static void stands() {
        ChimneyGang gang = new ChimneyGang();
        Check.due("on all", gang.stands(ALL, 0, 0), true);
        Check.due("on none", gang.stands(0, 0, 0), false);
        Check.due("on two", gang.stands(1 | 1 << 8, 0, 5), false);
        Check.due("on three", gang.stands(1 | 1 << 5 | 1 << 11, 0, 0), true);
        Check.due("on three of one half", gang.stands(7, 0, 0), false);
        Check.due("on a line: not inside", gang.stands(1 | 1 << 4 | 1 << 8, 0, 0), false);
        Check.due("just beside the line", gang.stands(1 | 1 << 4 | 1 << 8, 0, 1), true);
        Check.due("and on its other side", gang.stands(1 | 1 << 4 | 1 << 8, 0, -1), false);
        Check.due("on the four quarters, on their line", gang.stands(0x1111, 50, 50), false);
        Check.due("and inside of it", gang.stands(0x1111, 50, 49), true);
        Check.due("without the first brick, the last edge", gang.stands(ALL - 1, 92, 0), false);
        Check.due("inside of that edge", gang.stands(ALL - 1, 91, 0), true);
        Check.due("bits that are no bricks count for nothing", gang.stands(-1, 0, 0), true);
        Check.due("nor make three of two", gang.stands(1 | 1 << 8 | 1 << 20, 0, 5), false);
    }

    private static void centres() {
        ChimneyGang gang = new ChimneyGang();
        Check.due("far out", gang.stands(ALL, 95, 0), true);
        Check.due("in the corner", gang.stands(ALL, -95, -95), false);
        Check.refused("x 96", () -> gang.stands(ALL, 96, 0) ? 1 : 0);
        Check.refused("x -96", () -> gang.stands(ALL, -96, 0) ? 1 : 0);
        Check.refused("y 96", () -> gang.stands(ALL, 0, 96) ? 1 : 0);
        Check.refused("y -96", () -> gang.stands(ALL, 0, -96) ? 1 : 0);
        Check.refused("x of 32 bits", () -> gang.stands(ALL, Integer.MIN_VALUE, 0) ? 1 : 0);
        Check.refused("cut: k -1", () -> gang.cut(-1, 1, 0, 0));
        Check.refused("cut: k 16", () -> gang.cut(16, 1, 0, 0));
        Check.refused("cut: n 0", () -> gang.cut(0, 0, 0, 0));
        Check.refused("cut: n 13", () -> gang.cut(0, 13, 0, 0));
        Check.refused("cut: x 96", () -> gang.cut(0, 1, 96, 0));
        Check.refused("cut: y -96", () -> gang.cut(0, 1, 0, -96));
        Check.refused("fell: from -1", () -> gang.fell(-1, 0, 0, 0));
        Check.refused("fell: from 16", () -> gang.fell(16, 0, 0, 0));
        Check.refused("fell: to -1", () -> gang.fell(0, -1, 0, 0));
        Check.refused("fell: to 16", () -> gang.fell(0, 16, 0, 0));
        Check.refused("fell: x 96", () -> gang.fell(0, 0, 96, 0));
        Check.refused("fell: y 96", () -> gang.fell(0, 0, 0, 96));
    }

    /** Promise 21. */
    private static void cuts() {
        ChimneyGang gang = new ChimneyGang();
        Check.due("one brick", gang.cut(3, 1, 0, 0), -2);
        Check.due("seven bricks: the gap is a line through the centre", gang.cut(13, 7, 0, 0), 0);
        Check.due("six bricks", gang.cut(13, 6, 0, 0), -2);
        Check.due("twelve bricks", gang.cut(0, 12, 0, 0), 6);
        Check.due("eleven bricks, over 15", gang.cut(11, 11, 0, 0), 0);
        Check.due("behind the edge", gang.cut(15, 3, 75, 0), 0);
        Check.due("on the other side", gang.cut(7, 3, 75, 0), -2);
        Check.due("it doesn't stand when brick 0 is out", gang.cut(15, 3, 92, 0), -1);
        Check.due("it does, if brick 0 stays", gang.cut(1, 3, 92, 0), -2);
        Check.due("between bricks", gang.cut(1, 3, 60, 50), 2);
        Check.due("it never stood", gang.cut(4, 1, 95, 95), -1);
    }

    /** Promise 22. */
    private static void fewest() {
        ChimneyGang gang = new ChimneyGang();
        Check.due("anywhere, by the least k", gang.fell(0, 15, 0, 0), 16 * 7);
        Check.due("towards brick 0", gang.fell(0, 0, 0, 0), 16 * 7 + 13);
        Check.due("towards brick 4", gang.fell(4, 4, 0, 0), 16 * 7 + 1);
        Check.due("between 3 and 5", gang.fell(3, 5, 0, 0), 16 * 7);
        Check.due("between 15 and 1", gang.fell(15, 1, 0, 0), 16 * 7 + 12);
        Check.due("near an edge", gang.fell(15, 1, 75, 0), 16 * 3 + 15);
        Check.due("away from it", gang.fell(8, 8, 75, 0), 16 * 12 + 2);
        Check.due("it never stood", gang.fell(0, 15, 95, 95), -1);
        Check.due("never so far", gang.fell(8, 8, 95, 0), -1);
    }

    /** A quarter turn of all turns the answer. */
    private static void turnsAlike() {
        ChimneyGang gang = new ChimneyGang();
        for (int n = 1; n <= 12; n++) {
            int fall = gang.cut(2, n, 31, 17);
            int turned = gang.cut(6, n, -17, 31);
            Check.due("cut(6, " + n + ", ..) turned", turned, fall < 0 ? fall : (fall + 4) % 16);
        }
    }
}
