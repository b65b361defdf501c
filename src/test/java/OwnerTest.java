/** Promises 46 to 49: means, parts, bills. */
public final class OwnerTest {
    private OwnerTest() {
    }

    public static void main(String[] args) {
        sentences();
        Check.end();
    }

    static void sentences() {
        meansOfOwners();
        partsOfChimneys();
        rounds();
        asWhenTheRoundBegan();
        tillNobodyPays();
        oneEach();
        noMoreThanMeans();
        means();
        meansNot();
        noSuchOwner();
        part();
        partNot();
        bill();
        billRefused();
        paid();
        paidMissing();
    }

    private static ChimneyGang yard() {
        return Check.told("chimney 9;chimney 9;");
    }

    /** Means of each owner, then as many parts in chimney 0. */
    private static ChimneyGang owners(int... meansAndParts) {
        ChimneyGang gang = yard();
        int many = meansAndParts.length / 2;
        for (int owner = 0; owner < many; owner++) {
            Check.due("means of " + owner, gang.means(owner, meansAndParts[owner]), true);
            Check.due("part of " + owner, gang.part(0, owner, meansAndParts[many + owner]), true);
        }
        return gang;
    }

    private static void paidIs(ChimneyGang gang, int... paidAndMeans) {
        for (int i = 0; i < paidAndMeans.length; i++) {
            Check.due("paid(" + i / 2 + ", " + i % 2 + ")", gang.paid(i / 2, i % 2), paidAndMeans[i]);
        }
    }

    private static void meansOfOwners() {
        Check.says(0, "OWNERS 0 to 5 have MEANS (0 to 9999; 0 at first);");
        ChimneyGang gang = new ChimneyGang();
        paidIs(gang, 0, 0, 0, 0, 0, 0, 0, 0, 0, 0, 0, 0);
        Check.due("means(0, 9999)", gang.means(0, 9999), true);
        Check.due("means(5, 3)", gang.means(5, 3), true);
        paidIs(gang, 0, 9999, 0, 0, 0, 0, 0, 0, 0, 0, 0, 3);
        Check.due("means(5, 0)", gang.means(5, 0), true);
        paidIs(gang, 0, 9999, 0, 0, 0, 0, 0, 0, 0, 0, 0, 0);
        ChimneyGang all = owners(9999, 9999, 9999, 9999, 9999, 9999, 100, 100, 100, 100, 100, 100);
        Check.due("all they have", all.bill(0, 6 * 9999 + 5), 5);
        paidIs(all, 9999, 0, 9999, 0, 9999, 0, 9999, 0, 9999, 0, 9999, 0);
    }

    private static void partsOfChimneys() {
        Check.says(0, "a CHIMNEY has a PART of each (0 to 100; 0 at first).");
        ChimneyGang gang = yard();
        gang.means(0, 1000);
        gang.means(1, 1000);
        Check.due("no part at first", gang.bill(0, 10), 10);
        gang.part(0, 0, 100);
        gang.part(0, 1, 1);
        Check.due("parts of 100 and 1", gang.bill(0, 101), 0);
        paidIs(gang, 100, 900, 1, 999);
        Check.due("of the other chimney none", gang.bill(1, 10), 10);
        gang.part(1, 1, 5);
        Check.due("of the other chimney another one", gang.bill(1, 10), 0);
        paidIs(gang, 0, 900, 10, 989);
        gang.part(0, 0, 0);
        Check.due("no part any more", gang.bill(0, 9), 0);
        paidIs(gang, 0, 900, 9, 980);
        ChimneyGang twelve = Check.told(Check.times("chimney 9;", 12));
        twelve.means(5, 50);
        twelve.part(11, 5, 1);
        Check.due("the last part of the last one", twelve.bill(11, 7), 0);
        Check.due("and of no other", twelve.bill(10, 7), 7);
    }

    private static void rounds() {
        Check.says(0, "A BILL: in rounds: of what is wanting each OWNER with MEANS left and a PART pays that by its PART by all such "
            + "PARTS together, cut down, at most its MEANS");
        ChimneyGang gang = owners(10, 1000, 1000, 50, 30, 20);
        // 10 of 50, 30, 20; then 40 by 30 and 20
        Check.due("bill(0, 100)", gang.bill(0, 100), 0);
        paidIs(gang, 10, 0, 30 + 24, 946, 20 + 16, 964);
        Check.due("without the first", gang.bill(0, 100), 0);
        paidIs(gang, 0, 0, 60, 886, 40, 924);
        ChimneyGang cut = owners(99, 99, 99, 99, 1, 1, 2, 3);
        // of 13: 1, 1, 3, 5; of 3: 0, 0, 0, 1; of 2: none; then one each
        Check.due("bill(0, 13)", cut.bill(0, 13), 0);
        paidIs(cut, 2, 97, 2, 97, 3, 96, 6, 93);
        ChimneyGang much = owners(9999, 9999, 100, 99);
        Check.due("the greatest bill", much.bill(0, 99999), 99999 - 2 * 9999);
    }

    private static void asWhenTheRoundBegan() {
        Check.says(0, "(all as it was when the round began);");
        ChimneyGang gang = owners(50, 1000, 1000, 1, 1, 2);
        // 50 of 50, 50, 100: the first has nothing left, but counted in this round
        Check.due("bill(0, 200)", gang.bill(0, 200), 0);
        paidIs(gang, 50, 0, 50, 950, 100, 900);
        ChimneyGang last = owners(1000, 1000, 5, 10, 10, 10);
        // 30, 30, 5 of 90; then 12 and 12 of 25; then none; then one
        Check.due("bill(0, 90)", last.bill(0, 90), 0);
        paidIs(last, 30 + 12 + 1, 957, 30 + 12, 958, 5, 0);
    }

    private static void tillNobodyPays() {
        Check.says(0, "till nobody pays in a round;");
        ChimneyGang gang = owners(500, 400, 3, 2);
        Check.due("till nobody can", gang.bill(0, 2000), 1100);
        paidIs(gang, 500, 0, 400, 0);
        ChimneyGang many = owners(1, 2, 4, 8, 16, 999, 100, 50, 25, 12, 6, 1);
        // round by round one has nothing left, and the least part pays the most
        Check.due("bill(0, 900)", many.bill(0, 900), 0);
        paidIs(many, 1, 0, 2, 0, 4, 0, 8, 0, 16, 0, 869, 130);
    }

    private static void oneEach() {
        Check.says(0, "then, from OWNER 0 on, each such pays one, till nothing is wanting.");
        ChimneyGang gang = owners(0, 100, 100, 100, 100, 100, 7, 7, 7, 0, 7, 7);
        Check.due("bill(0, 3)", gang.bill(0, 3), 0);
        paidIs(gang, 0, 0, 1, 99, 1, 99, 0, 100, 1, 99, 0, 100);
        Check.due("bill(0, 6)", gang.bill(0, 6), 0);
        paidIs(gang, 0, 0, 2, 97, 2, 97, 0, 100, 1, 98, 1, 99);
        ChimneyGang unlike = owners(50, 50, 1, 99);
        // 0 and 9; then 1 by 1 and 99: nobody; then owner 0
        Check.due("bill(0, 10)", unlike.bill(0, 10), 0);
        paidIs(unlike, 1, 49, 9, 41);
        Check.due("bill(0, 1)", unlike.bill(0, 1), 0);
        paidIs(unlike, 1, 48, 0, 41);
        ChimneyGang six = owners(9, 9, 9, 9, 9, 9, 5, 5, 5, 5, 5, 5);
        Check.due("five by one each", six.bill(0, 5), 0);
        paidIs(six, 1, 8, 1, 8, 1, 8, 1, 8, 1, 8, 0, 9);
    }

    private static void noMoreThanMeans() {
        Check.says(0, "Nobody pays more than its MEANS, which are less by that then.");
        ChimneyGang gang = owners(1, 0, 1, 1);
        Check.due("bill(0, 2)", gang.bill(0, 2), 1);
        paidIs(gang, 1, 0, 0, 0);
        Check.due("bill(0, 1)", gang.bill(0, 1), 1);
        paidIs(gang, 0, 0, 0, 0);
        ChimneyGang ones = owners(1, 1, 1, 9, 9, 9);
        // of 4 one each; nobody has means then
        Check.due("bill(0, 4)", ones.bill(0, 4), 1);
        paidIs(ones, 1, 0, 1, 0, 1, 0);
        gang.means(0, 7);
        Check.due("means without a part", gang.bill(1, 9), 9);
        gang.part(1, 1, 9);
        Check.due("a part without means", gang.bill(1, 9), 9);
        paidIs(gang, 0, 7, 0, 0);
        gang.part(1, 0, 1);
        Check.due("both", gang.bill(1, 9), 2);
        paidIs(gang, 7, 0, 0, 0);
    }

    private static void means() {
        Check.says(46, "MEANS of an OWNER: true.");
        ChimneyGang gang = new ChimneyGang();
        for (int owner = 0; owner < 6; owner++) {
            for (int much : new int[] {9999, 0, 1, 10 + owner}) {
                Check.due("means(" + owner + ", " + much + ")", gang.means(owner, much), true);
                Check.due("paid(" + owner + ", 1)", gang.paid(owner, 1), much);
            }
        }
        paidIs(gang, 0, 10, 0, 11, 0, 12, 0, 13, 0, 14, 0, 15);
    }

    private static void meansNot() {
        Check.says(46, "False: not as told.");
        ChimneyGang gang = new ChimneyGang();
        gang.means(5, 3);
        for (int not : new int[] {-1, 10000, Integer.MIN_VALUE, Integer.MAX_VALUE}) {
            Check.due("means(5, " + not + ")", gang.means(5, not), false);
            Check.due("paid(5, 1)", gang.paid(5, 1), 3);
        }
    }

    private static void noSuchOwner() {
        Check.says(46, "NoSuchElementException: no such OWNER (as everywhere).");
        ChimneyGang gang = yard();
        for (int not : new int[] {-1, 6, Integer.MIN_VALUE, Integer.MAX_VALUE}) {
            Check.missing("means(" + not + ", 0)", () -> gang.means(not, 0));
            Check.missing("means(" + not + ", -1)", () -> gang.means(not, -1));
            Check.missing("part(0, " + not + ", 0)", () -> gang.part(0, not, 0));
            Check.missing("part(0, " + not + ", 101)", () -> gang.part(0, not, 101));
            Check.missing("paid(" + not + ", 0)", () -> gang.paid(not, 0));
            Check.missing("paid(" + not + ", 1)", () -> gang.paid(not, 1));
        }
    }

    private static void part() {
        Check.says(47, "A PART of an OWNER in a CHIMNEY: true.");
        ChimneyGang gang = yard();
        for (int owner = 0; owner < 6; owner++) {
            gang.means(owner, 100);
            Check.due("part(1, " + owner + ", 100)", gang.part(1, owner, 100), true);
            Check.due("it pays all", gang.bill(1, 5), 0);
            Check.due("paid(" + owner + ", 0)", gang.paid(owner, 0), 5);
            Check.due("part(1, " + owner + ", 0)", gang.part(1, owner, 0), true);
            Check.due("it pays nothing", gang.bill(1, 5), 5);
        }
    }

    private static void partNot() {
        Check.says(47, "False: not as told.");
        ChimneyGang gang = owners(100, 100, 3, 1);
        for (int not : new int[] {-1, 101, Integer.MIN_VALUE, Integer.MAX_VALUE}) {
            Check.due("part(0, 0, " + not + ")", gang.part(0, 0, not), false);
            Check.due("as it was", gang.bill(0, 4), 0);
            Check.due("as it was", gang.paid(0, 0), 3);
            Check.missing("no such chimney, ahead", () -> gang.part(2, 0, not));
            Check.missing("no such chimney, ahead", () -> gang.part(-1, 0, not));
        }
    }

    private static void bill() {
        Check.says(48, "A BILL (1 to 99,999): what nobody pays.");
        ChimneyGang gang = owners(5, 1);
        Check.due("the least", gang.bill(0, 1), 0);
        paidIs(gang, 1, 4);
        Check.due("the greatest", gang.bill(0, 99999), 99995);
        paidIs(gang, 4, 0);
        Check.due("nobody pays", gang.bill(1, 99999), 99999);
        paidIs(gang, 0, 0);
    }

    private static void billRefused() {
        Check.says(48, "IllegalArgumentException (behind that): not as told.");
        ChimneyGang gang = owners(5, 1);
        Check.due("a bill", gang.bill(0, 2), 0);
        for (int not : new int[] {0, -1, 100000, Integer.MIN_VALUE, Integer.MAX_VALUE}) {
            Check.refused("bill(0, " + not + ")", () -> gang.bill(0, not));
            paidIs(gang, 2, 3);
            Check.missing("no such chimney, ahead", () -> gang.bill(2, not));
            Check.missing("no such chimney, ahead", () -> gang.bill(-1, not));
            paidIs(gang, 2, 3);
        }
    }

    private static void paid() {
        Check.says(49, "What an OWNER paid of the latest BILL (what 0), its MEANS (1).");
        ChimneyGang gang = owners(50, 60, 1, 2);
        paidIs(gang, 0, 50, 0, 60, 0, 0);
        gang.bill(0, 30);
        paidIs(gang, 10, 40, 20, 40);
        gang.means(0, 7);
        paidIs(gang, 10, 7, 20, 40);
        gang.bill(0, 3);
        paidIs(gang, 1, 6, 2, 38);
        gang.bill(1, 3);
        paidIs(gang, 0, 6, 0, 38);
    }

    private static void paidMissing() {
        Check.says(49, "NoSuchElementException: also another what.");
        ChimneyGang gang = owners(50, 60, 1, 2);
        for (int what : new int[] {-1, 2, Integer.MIN_VALUE, Integer.MAX_VALUE}) {
            Check.missing("paid(0, " + what + ")", () -> gang.paid(0, what));
            Check.missing("paid(5, " + what + ")", () -> gang.paid(5, what));
        }
    }
}
