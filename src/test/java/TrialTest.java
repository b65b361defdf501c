/** Promises 15 to 19: rods and walls. */
public final class TrialTest {
    private TrialTest() {
    }

    public static void main(String[] args) {
        sentences();
        Check.end();
    }

    static void sentences() {
        partsOfARod();
        ohms();
        clamps();
        coursesOfAWall();
        dullOrClear();
        cases();
        bitsInAll();
        leastRest();
        leastQuestion();
        questionsTriedOut();
        rod();
        rodNot();
        wall();
        tell();
        tellOfNothing();
        tellRefused();
        sure();
        sureRefused();
        sureMissing();
        next();
        nextRefused();
        nextMissing();
    }

    private static void partsOfARod() {
        Check.says(0, "TRIALS: a ROD of n parts (2 to 14), each good (g ohms) or bad (b ohms, 0 to 99 both, unlike):");
        ChimneyGang gang = new ChimneyGang();
        Check.due("the shortest", gang.rod(2, 0, 99), true);
        Check.due("its cases", gang.sure(2), 4);
        Check.due("both good", gang.tell(0, 2, 0), 1);
        Check.due("good", gang.sure(1), 3);
        Check.due("the longest", gang.rod(14, 99, 0), true);
        Check.due("its cases", gang.sure(2), 16384);
        Check.due("all bad", gang.tell(0, 14, 0), 1);
        Check.due("bad", gang.sure(0), 16383);
        Check.due("all good", gang.rod(14, 99, 98), true);
        Check.due("the most ohms", gang.tell(0, 14, 14 * 99), 1);
        Check.due("good", gang.sure(1), 16383);
        Check.due("one bad of 14", gang.rod(14, 99, 98) ? gang.tell(0, 14, 14 * 99 - 1) : 0, 14);
    }

    private static void ohms() {
        Check.says(0, "asked between clamps i and j");
        ChimneyGang gang = new ChimneyGang();
        gang.rod(4, 2, 5);
        Check.due("two of three bad", gang.tell(0, 3, 12), 6);
        Check.due("one of the last two bad", gang.tell(2, 4, 7), 3);
        Check.due("the first bad", gang.tell(0, 1, 5), 2);
        Check.due("the second good", gang.tell(1, 2, 2), 1);
        Check.due("bad", gang.sure(0), 5);
        gang.rod(3, 0, 9);
        Check.due("an answer between", gang.tell(0, 3, 10), 0);
        gang.rod(3, 0, 9);
        Check.due("an answer below 0", gang.tell(0, 3, -9), 0);
        gang.rod(3, 0, 9);
        Check.due("too many bad", gang.tell(0, 3, 36), 0);
        gang.rod(3, 0, 9);
        Check.due("the greatest answer", gang.tell(0, 3, Integer.MAX_VALUE), 0);
    }

    private static void clamps() {
        Check.says(0, "(0 to n, i less than j): the ohms of parts i to j - 1 together.");
        for (int part = 0; part < 14; part++) {
            ChimneyGang gang = new ChimneyGang();
            gang.rod(14, 3, 8);
            Check.due("part " + part + " is bad", gang.tell(part, part + 1, 8), 8192);
            Check.due("that one", gang.sure(0), 1 << part);
            Check.due("and no other", gang.tell(0, 14, 13 * 3 + 8), 1);
            Check.due("all others", gang.sure(1), 16383 - (1 << part));
        }
        ChimneyGang gang = new ChimneyGang();
        gang.rod(5, 1, 2);
        Check.due("parts 1 to 3", gang.tell(1, 4, 6), 4);
        Check.due("are bad", gang.sure(0), 14);
        Check.due("parts 0 and 1", gang.tell(0, 2, 3), 2);
        Check.due("parts 3 and 4", gang.tell(3, 5, 3), 1);
        Check.due("are not", gang.sure(1), 17);
    }

    private static void coursesOfAWall() {
        Check.says(0, "A WALL of n courses (2 to 14), each sound or loose:");
        ChimneyGang gang = new ChimneyGang();
        Check.due("the least", gang.wall(2), true);
        Check.due("its cases", gang.sure(2), 4);
        Check.due("clear at one is clear of both", gang.tell(1, 0, 0), 1);
        Check.due("sound", gang.sure(1), 3);
        Check.due("the greatest", gang.wall(14), true);
        Check.due("its cases", gang.sure(2), 16384);
        for (int course = 1; course < 14; course += 3) {
            gang.tell(course, 0, 0);
        }
        Check.due("the top is left", gang.sure(2), 1);
        Check.due("sound", gang.sure(1), 16383);
    }

    private static void dullOrClear() {
        Check.says(0, "struck at one: dull (1), if it, the one below or the one above is loose, else clear (0).");
        for (int course = 0; course < 14; course++) {
            ChimneyGang gang = new ChimneyGang();
            gang.wall(14);
            int beside = (course > 0 ? 1 << course - 1 : 0) | 1 << course | (course < 13 ? 1 << course + 1 : 0);
            int left = 14 - Integer.bitCount(beside);
            Check.due("clear at " + course, gang.tell(course, 0, 0), 1 << left);
            Check.due("sound", gang.sure(1), beside);
            gang.wall(14);
            Check.due("dull at " + course, gang.tell(course, 0, 1), 16384 - (1 << left));
            Check.due("nothing is sure", gang.sure(0) | gang.sure(1), 0);
        }
        ChimneyGang gang = new ChimneyGang();
        gang.wall(5);
        Check.due("clear in the middle", gang.tell(2, 0, 0), 4);
        Check.due("dull below: only the foot is left", gang.tell(1, 0, 1), 2);
        Check.due("loose", gang.sure(0), 1);
        gang.wall(5);
        Check.due("neither dull nor clear", gang.tell(0, 0, 2), 0);
        gang.wall(5);
        Check.due("neither dull nor clear", gang.tell(0, 0, -1), 0);
    }

    private static void cases() {
        Check.says(0, "A CASE: which are bad, loose (bits). CASES FIT, if all that was told is so of them.");
        ChimneyGang gang = new ChimneyGang();
        gang.rod(6, 1, 3);
        Check.due("one of the first three", gang.tell(0, 3, 5), 24);
        Check.due("the same once more", gang.tell(0, 3, 5), 24);
        Check.due("one of the last three", gang.tell(3, 6, 5), 9);
        Check.due("one of the middle four", gang.tell(1, 5, 6), 4);
        Check.due("not the first", gang.tell(0, 1, 1), 2);
        Check.due("not the second", gang.tell(1, 2, 1), 1);
        Check.due("the third and the last", gang.sure(0), 4 | 32);
        Check.due("against what was told", gang.tell(1, 2, 3), 0);
        Check.due("none comes back", gang.tell(1, 2, 1), 0);
    }

    private static void bitsInAll() {
        Check.says(0, "SURE: bits that are in all that FIT, in none.");
        ChimneyGang gang = new ChimneyGang();
        gang.rod(4, 2, 5);
        Check.due("nothing is sure", gang.sure(0) | gang.sure(1), 0);
        gang.tell(0, 2, 7);
        Check.due("one of two: nothing is sure", gang.sure(0) | gang.sure(1), 0);
        gang.tell(0, 1, 5);
        Check.due("in all", gang.sure(0), 1);
        Check.due("in none", gang.sure(1), 2);
        gang.tell(2, 4, 10);
        Check.due("in all", gang.sure(0), 13);
        Check.due("in none", gang.sure(1), 2);
    }

    private static void nextIs(ChimneyGang gang, int i, int j, int rest) {
        Check.due("next(0)", gang.next(0), i);
        Check.due("next(1)", gang.next(1), j);
        Check.due("next(2)", gang.next(2), rest);
    }

    private static void leastRest() {
        Check.says(0, "REST of a question: of the answers, how many CASES that FIT the one with most has;");
        ChimneyGang gang = new ChimneyGang();
        gang.rod(2, 1, 2);
        // 1 2 1 of all, 2 2 of each part
        nextIs(gang, 0, 1, 2);
        gang.rod(3, 1, 2);
        // 1 3 3 1 of all, 2 4 2 of two, 4 4 of one
        nextIs(gang, 0, 3, 3);
        gang.rod(4, 1, 2);
        // 1 4 6 4 1 of all, 2 6 6 2 of three, 4 8 4 of two
        nextIs(gang, 0, 3, 6);
        gang.rod(14, 0, 1);
        nextIs(gang, 0, 13, 3432);
        gang.wall(3);
        // dull: 6 at the foot and at the top, 7 in the middle
        nextIs(gang, 0, -1, 6);
        gang.tell(0, 0, 0);
        nextIs(gang, 1, -1, 1);
        gang.wall(14);
        nextIs(gang, 0, -1, 12288);
    }

    private static void leastQuestion() {
        Check.says(0, "NEXT: the question of least REST, of like ones the least: i, then j (of a WALL the course).");
        ChimneyGang gang = new ChimneyGang();
        gang.rod(3, 1, 2);
        gang.tell(0, 3, 4);
        // one of three: each part alone tells the same
        nextIs(gang, 0, 1, 2);
        gang.tell(0, 1, 1);
        nextIs(gang, 0, 2, 1);
        gang.rod(5, 1, 2);
        gang.tell(0, 1, 1);
        gang.tell(1, 3, 3);
        gang.tell(3, 5, 2);
        // 0 to 2 tells as much as 1 to 2 and 2 to 3
        nextIs(gang, 0, 2, 1);
        gang.tell(1, 2, 2);
        nextIs(gang, 0, 1, 1);
        gang.rod(4, 1, 2);
        gang.tell(0, 4, 5);
        // which of four: two of them at a time
        nextIs(gang, 0, 2, 2);
        gang.rod(4, 1, 2);
        gang.tell(0, 2, 3);
        gang.tell(2, 4, 3);
        // 0 to 1 and 0 to 3 halve them; 1 to 3 leaves 1 2 1: the least i
        nextIs(gang, 0, 1, 2);
        gang.wall(4);
        gang.tell(0, 0, 0);
        // courses 2 and 3 are open: 1 tells of 2 alone, 2 and 3 of both
        nextIs(gang, 1, -1, 2);
        gang.wall(14);
        for (int course = 0; course < 12; course++) {
            gang.tell(course, 0, 0);
        }
        nextIs(gang, 12, -1, 1);
    }

    private static void questionsTriedOut() {
        Check.says(0, "NEXT: the question of least REST, of like ones the least: i, then j (of a WALL the course).");
        ChimneyGang gang = new ChimneyGang();
        gang.rod(4, 1, 2);
        gang.tell(0, 2, 3);
        // parts 1 to 3 are open by themselves: 1 3 3 1; all questions from 0 on leave 4 at least
        nextIs(gang, 1, 4, 3);
        for (int row = 0; row < 10 * 10 * 32; row++) {
            ChimneyGang one = new ChimneyGang();
            NaiveGang naive = new NaiveGang();
            int bits = row % 32;
            boolean wall = bits % 2 == 1 && bits % 3 == 0;
            Check.alike(one, naive, wall ? "wall 5" : "rod 5 4 1");
            tellBoth(one, naive, wall, row / 32 % 10, bits);
            tellBoth(one, naive, wall, row / 320, bits);
            Check.alike(one, naive, "sure 0", "sure 1", "sure 2", "next 0", "next 1", "next 2");
        }
    }

    /** One of ten questions, answered as it is of those bits. */
    private static void tellBoth(ChimneyGang one, NaiveGang naive, boolean wall, int question, int bits) {
        int[][] clamps = {{0, 2}, {0, 3}, {1, 3}, {1, 4}, {2, 4}, {2, 5}, {3, 5}, {0, 5}, {4, 5}, {1, 2}};
        int i = clamps[question][0];
        int j = clamps[question][1];
        int bad = Integer.bitCount(bits >> i & (1 << j - i) - 1);
        int dull = (bits & 7 << i >> 1) != 0 ? 1 : 0;
        Check.alike(one, naive, "tell " + i + " " + j + " " + (wall ? dull : bad + 4 * (j - i - bad)));
    }

    private static void rod() {
        Check.says(15, "A ROD is tried (what was told is gone): true.");
        ChimneyGang gang = new ChimneyGang();
        Check.due("rod(3, 1, 2)", gang.rod(3, 1, 2), true);
        nextIs(gang, 0, 3, 3);
        gang.tell(0, 3, 3);
        Check.due("one case", gang.sure(2), 1);
        Check.due("tried anew", gang.rod(3, 1, 2), true);
        Check.due("all cases", gang.sure(2), 8);
        Check.due("nothing is sure", gang.sure(0) | gang.sure(1), 0);
        nextIs(gang, 0, 3, 3);
        gang.wall(5);
        Check.due("a rod behind a wall", gang.rod(2, 4, 3), true);
        nextIs(gang, 0, 1, 2);
        Check.due("its ohms", gang.tell(0, 2, 6), 1);
    }

    private static void rodNot() {
        Check.says(15, "False: not as told.");
        ChimneyGang gang = new ChimneyGang();
        int[][] not = {{1, 0, 1}, {15, 0, 1}, {0, 0, 1}, {-1, 0, 1}, {Integer.MIN_VALUE, 0, 1}, {Integer.MAX_VALUE, 0, 1},
            {3, -1, 1}, {3, 100, 1}, {3, 1, -1}, {3, 1, 100}, {3, 7, 7}, {3, 0, 0}, {3, Integer.MIN_VALUE, 1},
            {3, 1, Integer.MAX_VALUE}};
        for (int[] it : not) {
            Check.due("rod not as told", gang.rod(it[0], it[1], it[2]), false);
        }
        Check.due("still nothing is tried", gang.tell(0, 1, 0), -1);
        gang.rod(3, 1, 2);
        gang.tell(0, 3, 6);
        for (int[] it : not) {
            Check.due("rod not as told", gang.rod(it[0], it[1], it[2]), false);
            Check.due("what was told stays", gang.sure(0), 7);
        }
    }

    private static void wall() {
        Check.says(16, "A WALL is tried likewise.");
        ChimneyGang gang = new ChimneyGang();
        for (int n : new int[] {1, 15, 0, -1, Integer.MIN_VALUE, Integer.MAX_VALUE}) {
            Check.due("wall(" + n + ")", gang.wall(n), false);
        }
        Check.due("still nothing is tried", gang.tell(0, 0, 0), -1);
        Check.due("wall(2)", gang.wall(2), true);
        gang.tell(0, 0, 0);
        Check.due("wall(0)", gang.wall(0), false);
        Check.due("what was told stays", gang.sure(2), 1);
        nextIs(gang, 0, -1, 1);
        Check.due("wall(2) anew", gang.wall(2), true);
        Check.due("what was told is gone", gang.sure(2), 4);
        nextIs(gang, 0, -1, 3);
        gang.rod(14, 1, 2);
        Check.due("a wall behind a rod", gang.wall(3), true);
        nextIs(gang, 0, -1, 6);
        Check.due("its courses", gang.tell(0, 0, 1), 6);
    }

    private static void tell() {
        Check.says(17, "What a question told (of a WALL j counts for nothing): how many CASES FIT then.");
        ChimneyGang gang = new ChimneyGang();
        gang.wall(3);
        Check.due("j of a wall", gang.tell(2, Integer.MIN_VALUE, 1), 6);
        Check.due("j of a wall", gang.tell(0, Integer.MAX_VALUE, 1), 5);
        gang.wall(3);
        Check.due("j of a wall, less than i", gang.tell(2, 1, 0), 2);
        Check.due("j of a wall, below 0", gang.tell(0, -1, 1), 1);
        Check.due("the foot is left", gang.sure(0), 1);
        gang.rod(3, 1, 2);
        Check.due("of a rod", gang.tell(0, 3, 5), 3);
        Check.due("none", gang.tell(0, 3, 7), 0);
    }

    private static void tellOfNothing() {
        Check.says(17, "NONE: nothing is tried.");
        ChimneyGang gang = new ChimneyGang();
        Check.due("a question", gang.tell(0, 1, 0), -1);
        Check.due("no question at all", gang.tell(-1, 99, 0), -1);
        Check.due("far away", gang.tell(Integer.MAX_VALUE, Integer.MIN_VALUE, 0), -1);
    }

    private static void tellRefused() {
        Check.says(17, "IllegalArgumentException: no such question.");
        ChimneyGang gang = new ChimneyGang();
        gang.rod(4, 2, 5);
        gang.tell(0, 1, 2);
        int[][] not = {{2, 2}, {0, 0}, {4, 4}, {3, 2}, {-1, 2}, {0, 5}, {4, 5}, {-1, 0}, {1, -1},
            {Integer.MIN_VALUE, Integer.MAX_VALUE}, {0, Integer.MAX_VALUE}, {Integer.MIN_VALUE, 1}};
        for (int[] it : not) {
            Check.refused("tell(" + it[0] + ", " + it[1] + ", 0) of a rod", () -> gang.tell(it[0], it[1], 0));
            Check.due("it tells nothing", gang.sure(2), 8);
        }
        gang.wall(4);
        for (int i : new int[] {-1, 4, 14, Integer.MIN_VALUE, Integer.MAX_VALUE}) {
            Check.refused("tell(" + i + ", ..) of a wall", () -> gang.tell(i, 0, 0));
            Check.refused("tell(" + i + ", " + i + " and 1)", () -> gang.tell(i, i + 1, 0));
            Check.due("it tells nothing", gang.sure(2), 16);
        }
    }

    private static void sure() {
        Check.says(18, "SURE: bad, loose in all CASES that FIT (what 0; 0 if none FITS), good, sound in all (1; likewise), "
            + "how many FIT (2).");
        ChimneyGang gang = new ChimneyGang();
        gang.rod(3, 4, 6);
        gang.tell(0, 2, 12);
        Check.due("bad", gang.sure(0), 3);
        Check.due("good", gang.sure(1), 0);
        Check.due("how many", gang.sure(2), 2);
        gang.tell(2, 3, 4);
        Check.due("good", gang.sure(1), 4);
        gang.tell(2, 3, 5);
        Check.due("none fits: none bad in all", gang.sure(0), 0);
        Check.due("none fits: none good in all", gang.sure(1), 0);
        Check.due("none fits", gang.sure(2), 0);
        gang.wall(3);
        gang.tell(0, 0, 0);
        gang.tell(1, 0, 1);
        Check.due("loose", gang.sure(0), 4);
        Check.due("sound", gang.sure(1), 3);
        Check.due("how many", gang.sure(2), 1);
        gang.tell(1, 0, 0);
        Check.due("none fits: none loose in all", gang.sure(0), 0);
        Check.due("none fits: none sound in all", gang.sure(1), 0);
        Check.due("none fits", gang.sure(2), 0);
    }

    private static void sureRefused() {
        Check.says(18, "IllegalArgumentException: nothing is tried.");
        ChimneyGang gang = new ChimneyGang();
        for (int what = 0; what < 3; what++) {
            int asked = what;
            Check.refused("sure(" + what + ") of nothing", () -> gang.sure(asked));
        }
    }

    private static void sureMissing() {
        Check.says(18, "NoSuchElementException (ahead): another what.");
        ChimneyGang gang = new ChimneyGang();
        for (int tried = 0; tried < 2; tried++) {
            for (int what : new int[] {-1, 3, Integer.MIN_VALUE, Integer.MAX_VALUE}) {
                Check.missing("sure(" + what + ")", () -> gang.sure(what));
            }
            gang.wall(3);
        }
    }

    private static void next() {
        Check.says(19, "NEXT: its i (what 0), its j (1; of a WALL NONE), its REST (2).");
        ChimneyGang gang = new ChimneyGang();
        gang.rod(3, 1, 2);
        nextIs(gang, 0, 3, 3);
        nextIs(gang, 0, 3, 3);
        gang.tell(0, 3, 4);
        Check.due("its rest, asked first", gang.next(2), 2);
        Check.due("its j, asked then", gang.next(1), 1);
        gang.tell(0, 1, 2);
        nextIs(gang, 0, 1, 1);
        gang.wall(2);
        Check.due("its j, asked first", gang.next(1), -1);
        nextIs(gang, 0, -1, 3);
        gang.tell(0, 0, 1);
        nextIs(gang, 0, -1, 3);
    }

    private static void nextRefused() {
        Check.says(19, "IllegalArgumentException: nothing is tried, or none FITS.");
        ChimneyGang gang = new ChimneyGang();
        for (int kind = 0; kind < 3; kind++) {
            for (int what = 0; what < 3; what++) {
                int asked = what;
                Check.refused("next(" + what + ")", () -> gang.next(asked));
            }
            if (kind == 0) {
                gang.rod(3, 1, 2);
                gang.next(0);
                gang.tell(0, 3, 9);
            } else {
                gang.wall(3);
                gang.next(0);
                gang.tell(0, 3, 9);
            }
        }
    }

    private static void nextMissing() {
        Check.says(19, "NoSuchElementException (ahead): another what.");
        ChimneyGang gang = new ChimneyGang();
        for (int tried = 0; tried < 3; tried++) {
            for (int what : new int[] {-1, 3, Integer.MIN_VALUE, Integer.MAX_VALUE}) {
                Check.missing("next(" + what + ")", () -> gang.next(what));
            }
            gang.wall(3);
            if (tried == 1) {
                gang.tell(0, 0, 7);
            }
        }
    }
}
