/** Promises 39 to 43: the order of chimneys by risk; ladders. */
public final class OrderTest {
    private OrderTest() {
    }

    public static void main(String[] args) {
        sentences();
        Check.end();
    }

    static void sentences() {
        chimneysInAnOrder();
        riskAndWork();
        daysGoBy();
        cost();
        bestOrder();
        laddersAsTold();
        tied();
        enough();
        mostOut();
        firstOut();
        risk();
        riskNot();
        order();
        orderNone();
        ordered();
        orderedMissing();
        ladders();
        laddersRefused();
        out();
        outRefused();
    }

    private static ChimneyGang told(int chimneys, String more) {
        return Check.told(Check.times("chimney 9;", chimneys) + more);
    }

    private static void orderIs(ChimneyGang gang, int bits, int cost, int... row) {
        Check.due("order(" + bits + ")", gang.order(bits), cost);
        for (int i = 0; i < row.length; i++) {
            Check.due("ordered(" + i + ")", gang.ordered(i), row[i]);
        }
        Check.missing("ordered behind the last", () -> gang.ordered(row.length));
    }

    private static void chimneysInAnOrder() {
        Check.says(0, "AN ORDER of some CHIMNEYS (bits; at most 9),");
        ChimneyGang gang = told(12, "");
        for (int chimney = 0; chimney < 12; chimney++) {
            orderIs(gang, 1 << chimney, 0, chimney);
            gang.risk(chimney, 1 + chimney, 1);
        }
        orderIs(gang, 0x801, 12 + 3, 11, 0);
        orderIs(gang, 0xff8, 12 + 11 * 3 + 10 * 5 + 9 * 7 + 8 * 9 + 7 * 11 + 6 * 13 + 5 * 15 + 4 * 17,
            11, 10, 9, 8, 7, 6, 5, 4, 3);
        orderIs(gang, 0x1ff, 9 + 8 * 3 + 7 * 5 + 6 * 7 + 5 * 9 + 4 * 11 + 3 * 13 + 2 * 15 + 17, 8, 7, 6, 5, 4, 3, 2, 1, 0);
        Check.due("ten", gang.order(0x3ff), -1);
    }

    private static void riskAndWork() {
        Check.says(0, "each with a RISK (0 to 999; 0 at first) and WORK (1 to 99 DAYS; 1 at first):");
        ChimneyGang gang = told(2, "");
        orderIs(gang, 1, 0, 0);
        gang.risk(0, 999, 99);
        orderIs(gang, 1, 999 * 99, 0);
        gang.risk(0, 0, 99);
        orderIs(gang, 1, 0, 0);
        gang.risk(0, 1, 1);
        orderIs(gang, 1, 1, 0);
        orderIs(gang, 3, 1, 0, 1);
        // without risk another one's work of a day is taken for granted: a way over it is short
        ChimneyGang way = told(3, "road 0 2 moves 9;road 0 1 moves 0;road 1 2 moves 0;");
        way.risk(0, 5, 1);
        way.risk(2, 1, 1);
        orderIs(way, 7, 5 + 3, 0, 1, 2);
        way.risk(1, 0, 10);
        orderIs(way, 7, 5 + 11, 0, 2, 1);
        way.risk(1, 0, 9);
        orderIs(way, 7, 5 + 11, 0, 1, 2);
    }

    private static void daysGoBy() {
        Check.says(0, "they are done one behind the other, DAYS going by for WORK of each and ROADS between.");
        ChimneyGang gang = told(3, "road 0 1 moves 0;road 0 2 moves 9;");
        gang.risk(0, 100, 2);
        gang.risk(1, 1, 3);
        orderIs(gang, 3, 100 * 2 + 5, 0, 1);
        gang.risk(2, 1, 4);
        orderIs(gang, 5, 100 * 2 + 2 + 9 + 4, 0, 2);
        orderIs(gang, 6, 3 + 3 + 1 + 4, 1, 2);
        orderIs(gang, 7, 100 * 2 + 5 + 10, 0, 1, 2);
    }

    private static void cost() {
        Check.says(0, "COST: of each its RISK by how many DAYS have gone by when it is done.");
        ChimneyGang gang = told(2, "road 0 1 moves 2;");
        gang.risk(0, 7, 5);
        orderIs(gang, 1, 35, 0);
        gang.risk(1, 3, 4);
        orderIs(gang, 2, 12, 1);
        orderIs(gang, 3, 35 + 3 * (5 + 2 + 4), 0, 1);
        ChimneyGang nine = told(9, "");
        for (int chimney = 0; chimney < 9; chimney++) {
            nine.risk(chimney, 999, 99);
        }
        orderIs(nine, 0x1ff, 999 * (99 * 45 + 36), 0, 1, 2, 3, 4, 5, 6, 7, 8);
    }

    private static void bestOrder() {
        Check.says(0, "THE BEST ORDER: of least COST, of like ones the first as a row.");
        ChimneyGang gang = told(3, "road 0 1 moves 0;road 1 2 moves 0;road 0 2 moves 9;");
        gang.risk(0, 1, 1);
        gang.risk(1, 1, 5);
        gang.risk(2, 10, 3);
        // 2 by day 3, 1 by day 8, 0 by day 9
        orderIs(gang, 7, 30 + 8 + 9, 2, 1, 0);
        orderIs(gang, 5, 30 + 13, 2, 0);
        orderIs(gang, 3, 1 + 6, 0, 1);
        ChimneyGang near = told(3, "road 0 1 moves 9;road 0 2 moves 1;road 1 2 moves 9;");
        near.risk(0, 5, 1);
        near.risk(1, 6, 1);
        near.risk(2, 5, 1);
        // the dearest first would cost more, as all others wait for its road
        orderIs(near, 7, 5 * 1 + 5 * 3 + 6 * 13, 0, 2, 1);
        ChimneyGang like = told(4, "");
        orderIs(like, 15, 0, 0, 1, 2, 3);
        orderIs(like, 10, 0, 1, 3);
        like.risk(2, 1, 1);
        orderIs(like, 15, 1, 2, 0, 1, 3);
        like.risk(1, 1, 1);
        orderIs(like, 15, 4, 1, 2, 0, 3);
        like.risk(3, 2, 2);
        // a risk of one by one day is as well first as a risk of two by two days, but for the road between
        orderIs(like, 14, 2 * 2 + 4 + 6, 3, 1, 2);
    }

    private static void laddersAsTold() {
        Check.says(0, "LADDERS: so many (0 to 200) of so many COURSES (3 to 99);");
        ChimneyGang gang = Check.told("chimney 1;chimney 200;");
        Check.due("none", gang.out(0, 99), 0);
        Check.due("one", gang.out(1, 3), 1);
        Check.due("198 of 3 courses", gang.out(198, 3), 2);
        Check.due("197 of them", gang.out(197, 3), 1);
        Check.due("200 of them", gang.out(200, 3), 3);
        Check.due("three of 99", gang.out(3, 99), 2);
        Check.due("four of 99", gang.out(4, 99), 3);
        ChimneyGang most = Check.told("chimney 3;chimney 200;chimney 4;");
        Check.due("199 of 3 courses", most.out(199, 3), 3);
        Check.due("200 of 3 courses: a course more", most.out(200, 3), 6);
    }

    private static void tied() {
        Check.says(0, "the first stands on the ground, each further one is tied with 2 COURSES beside the one below.");
        ChimneyGang gang = Check.told("chimney 1;chimney 3;chimney 4;chimney 5;chimney 99;chimney 100;chimney 196;chimney 197;"
            + "chimney 198;chimney 10;chimney 11;chimney 200;");
        int[][] due = {{0, 3, 1}, {1, 3, 1}, {2, 3, 2}, {3, 3, 3}, {3, 4, 2}, {3, 5, 1}, {4, 99, 1}, {5, 99, 2}, {6, 99, 2},
            {7, 99, 3}, {8, 99, 3}, {9, 3, 8}, {9, 4, 4}, {10, 4, 5}, {9, 10, 1}, {10, 10, 2}, {11, 3, 198}, {11, 99, 3}};
        for (int[] it : due) {
            Check.due("ladders(" + it[0] + ", " + it[1] + ")", gang.ladders(it[0], it[1]), it[2]);
        }
    }

    private static void enough() {
        Check.says(0, "ENOUGH for a CHIMNEY: as many as come to its COURSES.");
        ChimneyGang gang = Check.told("chimney 10;");
        Check.due("just as long", gang.ladders(0, 10), 1);
        Check.due("one course less", gang.ladders(0, 9), 2);
        Check.due("two that come to it", gang.ladders(0, 6), 2);
        Check.due("two that don't", gang.ladders(0, 5), 3);
        Check.due("two ladders are enough", gang.out(2, 6), 1);
        Check.due("two are not", gang.out(2, 5), 0);
        Check.due("three are", gang.out(3, 5), 1);
    }

    private static void mostOut() {
        Check.says(0, "OUT: of sets of CHIMNEYS for which they are enough all at once that with most COURSES together,");
        ChimneyGang gang = Check.told("chimney 10;chimney 20;chimney 30;chimney 20;chimney 12;");
        // by ladders of 12: 1, 2, 3, 2, 1
        Check.due("none", gang.out(0, 12), 0);
        Check.due("one: the higher one", gang.out(1, 12), 16);
        Check.due("two: 22 by two beat 20 by one", gang.out(2, 12), 1 | 16);
        Check.due("three: 32", gang.out(3, 12), 2 | 16);
        Check.due("nine: all", gang.out(9, 12), 31);
        Check.due("eight: all but the least", gang.out(8, 12), 30);
        ChimneyGang high = Check.told("chimney 11;chimney 20;chimney 20;");
        // by ladders of 10: 2, 3, 3
        Check.due("five: 31 of two", high.out(5, 10), 3);
        Check.due("six: 40 of the two others", high.out(6, 10), 6);
        Check.due("eight: all", high.out(8, 10), 7);
        Check.due("another yard", Check.yard(high, "chimney 11;chimney 20;"), 0);
        Check.due("without the third", high.out(5, 10), 3);
        Check.due("three: the second one", high.out(3, 10), 2);
        ChimneyGang twelve = Check.told(Check.times("chimney 3;", 12));
        Check.due("twelve", twelve.out(12, 3), 4095);
        Check.due("eleven of them", twelve.out(11, 3), 2047);
    }

    private static void firstOut() {
        Check.says(0, "of like ones the first as a row by CHIMNEYS, those that are in it ahead of those that aren't.");
        ChimneyGang gang = Check.told("chimney 10;chimney 20;chimney 30;chimney 20;chimney 12;");
        Check.due("four: 42 in two ways", gang.out(4, 12), 1 | 2 | 16);
        Check.due("five: 52 in two ways", gang.out(5, 12), 1 | 4 | 16);
        Check.due("of like ones the first chimney", gang.out(1, 20), 2);
        Check.due("of like ones the first two", gang.out(2, 30), 2 | 4);
        ChimneyGang like = Check.told("chimney 30;chimney 10;chimney 20;chimney 30;");
        Check.due("30 alone or 10 and 20", like.out(6, 7), 1);
        Check.due("one that is first or two", Check.told("chimney 5;chimney 5;chimney 10;").out(2, 10), 1 | 4);
        Check.due("two that are first or one", Check.told("chimney 5;chimney 5;chimney 10;").out(2, 6), 1 | 2);
        Check.due("10 and 20 or 30 alone", Check.told("chimney 10;chimney 20;chimney 30;").out(6, 7), 1 | 2);
    }

    private static void risk() {
        Check.says(39, "RISK and WORK: true.");
        ChimneyGang gang = told(2, "");
        int[][] all = {{999, 99}, {0, 1}, {0, 99}, {999, 1}, {5, 7}};
        for (int[] it : all) {
            Check.due("risk(0, " + it[0] + ", " + it[1] + ")", gang.risk(0, it[0], it[1]), true);
            orderIs(gang, 1, it[0] * it[1], 0);
            orderIs(gang, 2, 0, 1);
        }
        Check.due("of the other one", gang.risk(1, 2, 3), true);
        orderIs(gang, 1, 35, 0);
    }

    private static void riskNot() {
        Check.says(39, "False: not as told.");
        ChimneyGang gang = told(2, "");
        gang.risk(0, 5, 7);
        int[][] not = {{1000, 1}, {-1, 1}, {1, 0}, {1, 100}, {1, -1}, {Integer.MIN_VALUE, 1}, {Integer.MAX_VALUE, 1},
            {1, Integer.MIN_VALUE}, {1, Integer.MAX_VALUE}};
        for (int[] it : not) {
            Check.due("risk(0, " + it[0] + ", " + it[1] + ")", gang.risk(0, it[0], it[1]), false);
            orderIs(gang, 1, 35, 0);
            Check.missing("the chimney comes first", () -> gang.risk(2, it[0], it[1]));
        }
    }

    private static void order() {
        Check.says(40, "THE BEST ORDER: its COST; it is kept.");
        ChimneyGang gang = told(3, "");
        gang.risk(2, 3, 2);
        orderIs(gang, 7, 6, 2, 0, 1);
        gang.risk(0, 900, 1);
        gang.plan();
        Check.due("a faulty yard", Check.yard(gang, "z"), 1);
        Check.due("it is kept", gang.ordered(0), 2);
        Check.due("it is kept", gang.ordered(2), 1);
        orderIs(gang, 5, 900 + 12, 0, 2);
        orderIs(gang, 2, 0, 1);
    }

    private static void orderNone() {
        Check.says(40, "NONE: none, more than 9, or one that isn't there (what is kept stays).");
        ChimneyGang gang = told(11, "");
        Check.due("none", gang.order(0), -1);
        Check.missing("nothing is kept", () -> gang.ordered(0));
        orderIs(gang, 1 << 10 | 1 << 4, 0, 4, 10);
        for (int not : new int[] {0, 0x3ff, 0x7ff, 1 << 11, 1 << 11 | 1, 1 << 12, 1 << 30, -1, Integer.MIN_VALUE,
            Integer.MIN_VALUE | 1, Integer.MAX_VALUE, 0x10000 | 1}) {
            Check.due("order(" + not + ")", gang.order(not), -1);
            Check.due("what is kept stays", gang.ordered(0), 4);
            Check.due("what is kept stays", gang.ordered(1), 10);
            Check.missing("and no more", () -> gang.ordered(2));
        }
        orderIs(gang, 0x5ff & ~4 & ~8, 0, 0, 1, 4, 5, 6, 7, 8, 10);
        Check.due("of no chimneys", new ChimneyGang().order(1), -1);
        Check.due("none of none", new ChimneyGang().order(0), -1);
        ChimneyGang all = told(12, "");
        Check.due("twelve of twelve", all.order(0xfff), -1);
        Check.due("nine of twelve", all.order(0xff8), 0);
        Check.due("the thirteenth", all.order(1 << 12), -1);
    }

    private static void ordered() {
        Check.says(41, "The i-th CHIMNEY of the ORDER that is kept.");
        ChimneyGang gang = told(12, "");
        gang.risk(11, 2, 1);
        gang.risk(5, 1, 1);
        orderIs(gang, 1 << 11 | 1 << 5 | 1 << 2 | 1, 2 + 3, 11, 5, 0, 2);
    }

    private static void orderedMissing() {
        Check.says(41, "NoSuchElementException: there is none.");
        ChimneyGang gang = told(3, "");
        Check.missing("none is kept", () -> gang.ordered(0));
        Check.missing("none is kept", () -> gang.ordered(-1));
        gang.order(7);
        gang.order(5);
        for (int i : new int[] {-1, 2, 3, 9, Integer.MIN_VALUE, Integer.MAX_VALUE}) {
            Check.missing("ordered(" + i + ")", () -> gang.ordered(i));
        }
        Check.due("a yard", Check.yard(gang, "chimney 1;chimney 1;"), 0);
        Check.missing("gone with a yard", () -> gang.ordered(0));
    }

    private static void ladders() {
        Check.says(42, "How many LADDERS of so many COURSES a CHIMNEY needs.");
        ChimneyGang gang = Check.told("chimney 1;chimney 25;chimney 200;");
        Check.due("one at least", gang.ladders(0, 99), 1);
        Check.due("one of 25", gang.ladders(1, 25), 1);
        Check.due("two of 24", gang.ladders(1, 24), 2);
        Check.due("of 9: 9, 16, 23, 30", gang.ladders(1, 9), 4);
        Check.due("the most", gang.ladders(2, 3), 198);
    }

    private static void laddersRefused() {
        Check.says(42, "IllegalArgumentException (behind that): not 3 to 99.");
        ChimneyGang gang = Check.told("chimney 1;");
        for (int not : new int[] {2, 100, 1, 0, -1, Integer.MIN_VALUE, Integer.MAX_VALUE}) {
            Check.refused("ladders(0, " + not + ")", () -> gang.ladders(0, not));
            Check.missing("another chimney, ahead", () -> gang.ladders(1, not));
        }
    }

    private static void out() {
        Check.says(43, "OUT, as bits.");
        ChimneyGang gang = Check.told(Check.times("chimney 9;", 11) + "chimney 10;");
        Check.due("the last one", gang.out(1, 10), 1 << 11);
        Check.due("it and the first", gang.out(2, 10), 1 << 11 | 1);
        Check.due("all", gang.out(12, 10), 4095);
        Check.due("all", gang.out(200, 99), 4095);
        Check.due("no chimneys", new ChimneyGang().out(200, 99), 0);
    }

    private static void outRefused() {
        Check.says(43, "IllegalArgumentException: LADDERS not as told.");
        ChimneyGang gang = Check.told("chimney 1;");
        for (int not : new int[] {-1, 201, Integer.MIN_VALUE, Integer.MAX_VALUE}) {
            Check.refused("out(" + not + ", 12)", () -> gang.out(not, 12));
        }
        for (int not : new int[] {2, 100, 1, 0, -1, Integer.MIN_VALUE, Integer.MAX_VALUE}) {
            Check.refused("out(5, " + not + ")", () -> gang.out(5, not));
            Check.refused("out(0, " + not + ")", () -> gang.out(0, not));
        }
        Check.due("the ends", gang.out(200, 3) + gang.out(200, 99) + gang.out(0, 3), 2);
    }
}
