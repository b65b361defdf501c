/** Promises 39 to 43: the order of chimneys by risk; ladders. */
public final class OrderTest {
    private OrderTest() {
    }

    public static void main(String[] args) {
        risks();
        orders();
        firstAsARow();
        notOrdered();
        ladders();
        out();
        Check.end();
    }

    private static ChimneyGang told(int chimneys, String more) {
        StringBuilder text = new StringBuilder();
        for (int i = 0; i < chimneys; i++) {
            text.append("chimney 9;");
        }
        return Check.told(text + more);
    }

    private static void orderIs(ChimneyGang gang, int bits, int cost, int... row) {
        Check.due("order(" + bits + ")", gang.order(bits), cost);
        for (int i = 0; i < row.length; i++) {
            int at = i;
            Check.due("ordered(" + i + ")", gang.ordered(at), row[i]);
        }
        Check.missing("ordered behind the last", () -> gang.ordered(row.length));
        Check.missing("ordered(-1)", () -> gang.ordered(-1));
    }

    /** Promise 39. */
    private static void risks() {
        ChimneyGang gang = told(2, "");
        orderIs(gang, 1, 0, 0);
        Check.due("risk(0, 999, 99)", gang.risk(0, 999, 99), true);
        orderIs(gang, 1, 999 * 99, 0);
        Check.due("risk(0, 1000, 1)", gang.risk(0, 1000, 1), false);
        Check.due("risk(0, -1, 1)", gang.risk(0, -1, 1), false);
        Check.due("risk(0, 1, 0)", gang.risk(0, 1, 0), false);
        Check.due("risk(0, 1, 100)", gang.risk(0, 1, 100), false);
        orderIs(gang, 1, 999 * 99, 0);
        Check.due("risk(0, 0, 1)", gang.risk(0, 0, 1), true);
        orderIs(gang, 1, 0, 0);
        Check.missing("risk(2, ..)", () -> gang.risk(2, 0, 1) ? 1 : 0);
        Check.missing("risk(-1, ..)", () -> gang.risk(-1, -1, 0) ? 1 : 0);
    }

    /** Promises 40 and 41. */
    private static void orders() {
        ChimneyGang gang = told(3, "road 0 1 moves 0; road 1 2 moves 0; road 0 2 moves 9;");
        gang.risk(0, 1, 1);
        gang.risk(1, 1, 5);
        gang.risk(2, 10, 3);
        // 2 by day 3, 1 by day 8, 0 by day 9
        orderIs(gang, 7, 30 + 8 + 9, 2, 1, 0);
        // 2 by day 3, then nine days of road
        orderIs(gang, 5, 30 + 13, 2, 0);
        orderIs(gang, 3, 1 + 6, 0, 1);
        ChimneyGang near = told(3, "road 0 1 moves 9; road 0 2 moves 1; road 1 2 moves 9;");
        near.risk(0, 5, 1);
        near.risk(1, 6, 1);
        near.risk(2, 5, 1);
        // the dearest first would cost more, as all others wait for its road
        orderIs(near, 7, 5 * 1 + 5 * 3 + 6 * 13, 0, 2, 1);
        ChimneyGang nine = told(12, "");
        for (int i = 0; i < 12; i++) {
            nine.risk(i, i, 1);
        }
        orderIs(nine, 0xff8, 11 + 10 * 3 + 9 * 5 + 8 * 7 + 7 * 9 + 6 * 11 + 5 * 13 + 4 * 15 + 3 * 17,
            11, 10, 9, 8, 7, 6, 5, 4, 3);
    }

    private static void firstAsARow() {
        ChimneyGang gang = told(4, "");
        orderIs(gang, 15, 0, 0, 1, 2, 3);
        orderIs(gang, 10, 0, 1, 3);
        gang.risk(2, 1, 1);
        orderIs(gang, 15, 1, 2, 0, 1, 3);
        gang.risk(1, 1, 1);
        orderIs(gang, 15, 4, 1, 2, 0, 3);
    }

    private static void notOrdered() {
        ChimneyGang gang = told(10, "");
        Check.missing("none is kept", () -> gang.ordered(0));
        Check.due("none", gang.order(0), -1);
        Check.missing("still none is kept", () -> gang.ordered(0));
        orderIs(gang, 1 << 9, 0, 9);
        Check.due("ten", gang.order(1023), -1);
        Check.due("one that isn't there", gang.order(1 << 10), -1);
        Check.due("one that isn't there with one that is", gang.order(1 << 10 | 1), -1);
        Check.due("far away", gang.order(Integer.MIN_VALUE), -1);
        Check.due("all bits", gang.order(-1), -1);
        Check.due("none", gang.order(0), -1);
        Check.due("what is kept stays", gang.ordered(0), 9);
        Check.due("a faulty yard", Check.yard(gang, "z"), 1);
        Check.due("what is kept stays", gang.ordered(0), 9);
        Check.due("a yard", Check.yard(gang, "chimney 1;"), 0);
        Check.missing("and it is gone", () -> gang.ordered(0));
    }

    /** Promise 42. */
    private static void ladders() {
        ChimneyGang gang = Check.told("chimney 1; chimney 10; chimney 11; chimney 200;");
        Check.due("longer than it", gang.ladders(0, 3), 1);
        Check.due("just as long", gang.ladders(1, 10), 1);
        Check.due("one course more", gang.ladders(2, 10), 2);
        Check.due("each brings but one course", gang.ladders(1, 3), 8);
        Check.due("two courses each", gang.ladders(1, 4), 4);
        Check.due("two courses each, one left", gang.ladders(2, 4), 5);
        Check.due("200 by 3", gang.ladders(3, 3), 198);
        Check.due("200 by 99", gang.ladders(3, 99), 3);
        Check.refused("of 2 courses", () -> gang.ladders(0, 2));
        Check.refused("of 100 courses", () -> gang.ladders(0, 100));
        Check.missing("chimney 4", () -> gang.ladders(4, 2));
        Check.missing("chimney -1", () -> gang.ladders(-1, 5));
    }

    /** Promise 43. */
    private static void out() {
        ChimneyGang gang = Check.told("chimney 10; chimney 20; chimney 30; chimney 20; chimney 12;");
        // by ladders of 12: 1, 2, 3, 2, 1
        Check.due("none", gang.out(0, 12), 0);
        Check.due("one: the higher one", gang.out(1, 12), 16);
        Check.due("two: 22 by two beat 20 by one", gang.out(2, 12), 1 | 16);
        Check.due("three: 32", gang.out(3, 12), 2 | 16);
        Check.due("four: 42 in two ways", gang.out(4, 12), 1 | 2 | 16);
        Check.due("five: 52 in two ways", gang.out(5, 12), 1 | 4 | 16);
        Check.due("nine: all", gang.out(9, 12), 31);
        Check.due("200", gang.out(200, 3), 31);
        Check.due("of like ones the first chimney", gang.out(1, 20), 2);
        Check.due("of like ones the first two", gang.out(2, 30), 2 | 4);
        ChimneyGang like = Check.told("chimney 30; chimney 10; chimney 20; chimney 30;");
        Check.due("30 alone or 10 and 20", like.out(6, 7), 1);
        Check.due("one that is first or two", Check.told("chimney 5; chimney 5; chimney 10;").out(2, 10), 1 | 4);
        Check.refused("-1", () -> gang.out(-1, 12));
        Check.refused("201", () -> gang.out(201, 12));
        Check.refused("of 2 courses", () -> gang.out(5, 2));
        Check.refused("of 100 courses", () -> gang.out(5, 100));
        Check.due("no chimneys", new ChimneyGang().out(200, 99), 0);
    }
}
