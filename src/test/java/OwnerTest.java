/** Promises 46 to 49: means, parts, bills. */
public final class OwnerTest {
    private OwnerTest() {
    }

    public static void main(String[] args) {
        means();
        parts();
        billRefused();
        rounds();
        leftOver();
        nobody();
        Check.end();
    }

    private static ChimneyGang yard() {
        return Check.told("chimney 9; chimney 9;");
    }

    private static void paidIs(ChimneyGang gang, int... paidAndMeans) {
        for (int i = 0; i < paidAndMeans.length; i++) {
            Check.due("paid(" + i / 2 + ", " + i % 2 + ")", gang.paid(i / 2, i % 2), paidAndMeans[i]);
        }
    }

    /** Promises 46 and 49. */
    private static void means() {
        ChimneyGang gang = new ChimneyGang();
        paidIs(gang, 0, 0, 0, 0, 0, 0, 0, 0, 0, 0, 0, 0);
        Check.due("means(0, 9999)", gang.means(0, 9999), true);
        Check.due("means(5, 3)", gang.means(5, 3), true);
        Check.due("means(5, -1)", gang.means(5, -1), false);
        Check.due("means(5, 10000)", gang.means(5, 10000), false);
        paidIs(gang, 0, 9999, 0, 0, 0, 0, 0, 0, 0, 0, 0, 3);
        Check.due("means(5, 0)", gang.means(5, 0), true);
        Check.due("paid(5, 1)", gang.paid(5, 1), 0);
        Check.missing("means(6, 0)", () -> gang.means(6, 0) ? 1 : 0);
        Check.missing("means(-1, -1)", () -> gang.means(-1, -1) ? 1 : 0);
        Check.missing("paid(6, 0)", () -> gang.paid(6, 0));
        Check.missing("paid(-1, 0)", () -> gang.paid(-1, 0));
        Check.missing("paid(0, 2)", () -> gang.paid(0, 2));
        Check.missing("paid(0, -1)", () -> gang.paid(0, -1));
    }

    /** Promise 47. */
    private static void parts() {
        ChimneyGang gang = yard();
        gang.means(0, 100);
        Check.due("no part at first", gang.bill(0, 10), 10);
        Check.due("part(0, 0, 100)", gang.part(0, 0, 100), true);
        Check.due("part(0, 0, 101)", gang.part(0, 0, 101), false);
        Check.due("part(0, 0, -1)", gang.part(0, 0, -1), false);
        Check.due("all of it", gang.bill(0, 10), 0);
        Check.due("of the other chimney none", gang.bill(1, 10), 10);
        Check.due("part(0, 0, 0)", gang.part(0, 0, 0), true);
        Check.due("none again", gang.bill(0, 10), 10);
        Check.missing("chimney 2", () -> gang.part(2, 0, 0) ? 1 : 0);
        Check.missing("chimney -1", () -> gang.part(-1, 0, 101) ? 1 : 0);
        Check.missing("owner 6", () -> gang.part(0, 6, 0) ? 1 : 0);
        Check.missing("owner -1", () -> gang.part(0, -1, 101) ? 1 : 0);
    }

    private static void billRefused() {
        ChimneyGang gang = yard();
        gang.means(0, 5);
        gang.part(0, 0, 1);
        Check.due("a bill", gang.bill(0, 2), 0);
        Check.refused("bill(0, 0)", () -> gang.bill(0, 0));
        Check.refused("bill(0, -1)", () -> gang.bill(0, -1));
        Check.refused("bill(0, 100000)", () -> gang.bill(0, 100000));
        Check.missing("bill(2, 0)", () -> gang.bill(2, 0));
        Check.missing("bill(-1, 5)", () -> gang.bill(-1, 5));
        paidIs(gang, 2, 3);
        Check.due("the greatest bill", gang.bill(0, 99999), 99996);
        paidIs(gang, 3, 0);
    }

    /** Promise 48: who can't pay leaves it to the others, by their parts. */
    private static void rounds() {
        ChimneyGang gang = yard();
        gang.means(0, 10);
        gang.means(1, 1000);
        gang.means(2, 1000);
        gang.part(0, 0, 50);
        gang.part(0, 1, 30);
        gang.part(0, 2, 20);
        // 10 of 50, 30, 20; then 40 by 30 and 20
        Check.due("bill(0, 100)", gang.bill(0, 100), 0);
        paidIs(gang, 10, 0, 30 + 24, 946, 20 + 16, 964);
        Check.due("without the first", gang.bill(0, 100), 0);
        paidIs(gang, 0, 0, 60, 886, 40, 924);
        Check.due("till nobody can", gang.bill(0, 2000), 2000 - 886 - 924);
        paidIs(gang, 0, 0, 886, 0, 924, 0, 0, 0);
    }

    /** What is cut down is asked again; what then is less than a part, from owner 0 on, one each. */
    private static void leftOver() {
        ChimneyGang gang = yard();
        for (int owner = 1; owner < 6; owner++) {
            gang.means(owner, 100);
            gang.part(0, owner, owner == 3 ? 0 : 7);
        }
        Check.due("bill(0, 3)", gang.bill(0, 3), 0);
        paidIs(gang, 0, 0, 1, 99, 1, 99, 0, 100, 1, 99, 0, 100);
        Check.due("bill(0, 6)", gang.bill(0, 6), 0);
        paidIs(gang, 0, 0, 2, 97, 2, 97, 0, 100, 1, 98, 1, 99);
        ChimneyGang unlike = yard();
        unlike.means(0, 50);
        unlike.means(1, 50);
        unlike.part(0, 0, 1);
        unlike.part(0, 1, 99);
        // 0 and 9; then 1 by 1 and 99: nobody; then owner 0
        Check.due("bill(0, 10)", unlike.bill(0, 10), 0);
        paidIs(unlike, 1, 49, 9, 41);
        unlike.means(1, 0);
        unlike.means(0, 1);
        Check.due("bill(0, 2)", unlike.bill(0, 2), 1);
        paidIs(unlike, 1, 0, 0, 0);
    }

    private static void nobody() {
        ChimneyGang gang = yard();
        gang.means(0, 7);
        Check.due("means without a part", gang.bill(0, 9), 9);
        gang.part(0, 1, 9);
        Check.due("a part without means", gang.bill(0, 9), 9);
        paidIs(gang, 0, 7, 0, 0);
        gang.part(0, 0, 1);
        Check.due("both", gang.bill(0, 9), 2);
        paidIs(gang, 7, 0, 0, 0);
        Check.due("the next bill", gang.bill(1, 1), 1);
        paidIs(gang, 0, 0);
    }
}
