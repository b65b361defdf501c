/** Promises 15 to 19: rods and walls. */
public final class TrialTest {
    private TrialTest() {
    }

    public static void main(String[] args) {
        nothingTried();
        rods();
        walls();
        rodsTold();
        wallsTold();
        nextOfRods();
        nextOfWalls();
        Check.end();
    }

    private static void nothingTried() {
        ChimneyGang gang = new ChimneyGang();
        Check.due("tell of nothing", gang.tell(0, 1, 0), -1);
        Check.due("tell of nothing, no question either", gang.tell(-1, 99, 0), -1);
        Check.refused("sure of nothing", () -> gang.sure(0));
        Check.refused("next of nothing", () -> gang.next(0));
        Check.missing("sure(3) of nothing", () -> gang.sure(3));
        Check.missing("sure(-1) of nothing", () -> gang.sure(-1));
        Check.missing("next(3) of nothing", () -> gang.next(3));
        Check.missing("next(-1) of nothing", () -> gang.next(-1));
    }

    /** Promise 15. */
    private static void rods() {
        ChimneyGang gang = new ChimneyGang();
        Check.due("rod(1, ..)", gang.rod(1, 0, 1), false);
        Check.due("rod(15, ..)", gang.rod(15, 0, 1), false);
        Check.due("good -1", gang.rod(3, -1, 1), false);
        Check.due("good 100", gang.rod(3, 100, 1), false);
        Check.due("bad -1", gang.rod(3, 1, -1), false);
        Check.due("bad 100", gang.rod(3, 1, 100), false);
        Check.due("alike", gang.rod(3, 7, 7), false);
        Check.due("still nothing tried", gang.tell(0, 1, 0), -1);
        Check.due("rod(2, 0, 99)", gang.rod(2, 0, 99), true);
        Check.due("four cases", gang.sure(2), 4);
        Check.due("rod(14, 99, 0)", gang.rod(14, 99, 0), true);
        Check.due("all cases", gang.sure(2), 16384);
        gang.tell(0, 14, 0);
        Check.due("all bad", gang.sure(0), 16383);
        Check.due("not as told: what was told stays", gang.rod(14, 5, 5), false);
        Check.due("one case", gang.sure(2), 1);
        Check.due("tried anew", gang.rod(14, 99, 0), true);
        Check.due("what was told is gone", gang.sure(2), 16384);
    }

    /** Promise 16. */
    private static void walls() {
        ChimneyGang gang = new ChimneyGang();
        Check.due("wall(1)", gang.wall(1), false);
        Check.due("wall(15)", gang.wall(15), false);
        Check.due("wall(14)", gang.wall(14), true);
        Check.due("all cases", gang.sure(2), 16384);
        Check.due("wall(2)", gang.wall(2), true);
        Check.due("clear at one is clear of both", gang.tell(0, 0, 0), 1);
        Check.due("wall(0)", gang.wall(0), false);
        Check.due("still one case", gang.sure(2), 1);
        Check.due("wall(2) anew", gang.wall(2), true);
        Check.due("four cases", gang.sure(2), 4);
    }

    /** Promises 17 and 18. */
    private static void rodsTold() {
        ChimneyGang gang = new ChimneyGang();
        gang.rod(4, 2, 5);
        Check.due("nothing is sure", gang.sure(0) + gang.sure(1), 0);
        Check.due("two of three bad", gang.tell(0, 3, 12), 6);
        Check.due("still nothing is sure", gang.sure(0) + gang.sure(1), 0);
        Check.due("one of the last two bad", gang.tell(2, 4, 7), 3);
        Check.due("the first bad", gang.tell(0, 1, 5), 2);
        Check.due("bad", gang.sure(0), 1);
        Check.due("good", gang.sure(1), 0);
        Check.due("the second good", gang.tell(1, 2, 2), 1);
        Check.due("bad", gang.sure(0), 5);
        Check.due("good", gang.sure(1), 10);
        Check.refused("i = j", () -> gang.tell(2, 2, 0));
        Check.refused("i above j", () -> gang.tell(3, 2, 0));
        Check.refused("i below 0", () -> gang.tell(-1, 2, 0));
        Check.refused("j above n", () -> gang.tell(0, 5, 0));
        Check.refused("both far away", () -> gang.tell(Integer.MIN_VALUE, Integer.MAX_VALUE, 0));
        Check.due("what was refused tells nothing", gang.sure(2), 1);
        Check.due("ohms that can't be", gang.tell(0, 4, 15), 0);
        Check.due("none fits: none bad in all", gang.sure(0), 0);
        Check.due("none fits: none good in all", gang.sure(1), 0);
        Check.due("none fits", gang.sure(2), 0);
        Check.due("and none comes back", gang.tell(0, 4, 14), 0);
        Check.refused("next when none fits", () -> gang.next(2));
        Check.missing("another what ahead of that", () -> gang.next(3));
        Check.missing("another what", () -> gang.sure(3));
        gang.rod(3, 0, 9);
        Check.due("an answer between", gang.tell(0, 3, 10), 0);
    }

    private static void wallsTold() {
        ChimneyGang gang = new ChimneyGang();
        gang.wall(5);
        Check.due("clear in the middle", gang.tell(2, -7, 0), 4);
        Check.due("sound", gang.sure(1), 14);
        Check.due("loose", gang.sure(0), 0);
        Check.due("dull at the foot: only it is left", gang.tell(1, 99, 1), 2);
        Check.due("loose", gang.sure(0), 1);
        Check.due("clear at the top", gang.tell(4, 0, 0), 1);
        Check.due("sound", gang.sure(1), 30);
        Check.refused("course -1", () -> gang.tell(-1, 0, 0));
        Check.refused("course 5", () -> gang.tell(5, 0, 0));
        Check.due("neither dull nor clear", gang.tell(0, 0, 2), 0);
        gang.wall(3);
        Check.due("dull at the top", gang.tell(2, 0, 1), 6);
    }

    private static void nextIs(ChimneyGang gang, int i, int j, int rest) {
        Check.due("next(0)", gang.next(0), i);
        Check.due("next(1)", gang.next(1), j);
        Check.due("next(2)", gang.next(2), rest);
    }

    /** Promise 19. */
    private static void nextOfRods() {
        ChimneyGang gang = new ChimneyGang();
        gang.rod(2, 1, 2);
        nextIs(gang, 0, 1, 2);
        gang.rod(3, 1, 2);
        nextIs(gang, 0, 3, 3);
        gang.tell(0, 3, 4);
        nextIs(gang, 0, 1, 2);
        gang.tell(0, 1, 1);
        nextIs(gang, 0, 2, 1);
        gang.tell(1, 2, 2);
        nextIs(gang, 0, 1, 1);
        gang.rod(14, 0, 1);
        // clamped to 13 or to 14 the most common answer has as many: the least j
        nextIs(gang, 0, 13, 3432);
        gang.tell(0, 14, 0);
        nextIs(gang, 0, 1, 1);
    }

    private static void nextOfWalls() {
        ChimneyGang gang = new ChimneyGang();
        gang.wall(3);
        nextIs(gang, 0, -1, 6);
        gang.tell(0, 0, 0);
        nextIs(gang, 1, -1, 1);
        gang.wall(2);
        nextIs(gang, 0, -1, 3);
        gang.rod(3, 1, 2);
        nextIs(gang, 0, 3, 3);
        gang.wall(3);
        nextIs(gang, 0, -1, 6);
    }
}
