/** Promises 9, 10, 44, 45, 50, 51: the best plan, letters laid even on gangs, storms. */
public final class PlanTest {
    private static final String CALM = "winds 0 0 0 0 0 0 0 0 0 0 0 0 0 0 0 0 0 0 0 0;";

    private PlanTest() {
    }

    public static void main(String[] args) {
        sentences();
        Check.end();
    }

    static void sentences() {
        oneBehindTheOther();
        asEarlyAsCanBe();
        atAnyChimneyAtFirst();
        byRoad();
        greatestPrice();
        endsFirst();
        firstAsARow();
        planIsKept();
        planned();
        plannedOfNone();
        plannedMissing();
        onGangs();
        leastLoad();
        weights();
        firstGangs();
        even();
        evenOfNone();
        gang();
        gangMissing();
        chances();
        odds();
        beforeAStorm();
        storm();
        noStorm();
        oddsByWhat();
        oddsOfNone();
        oddsMissing();
    }

    private static String letter(int chimney, int days, int from, int till, int price) {
        return "letter " + chimney + " days " + days + " wind 5 from " + from + " till " + till + " price " + price + ";";
    }

    private static ChimneyGang told(String letters) {
        return Check.told("chimney 10;chimney 20;" + CALM + letters);
    }

    private static void planIs(ChimneyGang gang, int price, int last, int... row) {
        Check.due("plan()", gang.plan(), price);
        Check.due("how many", gang.planned(-1, 0), row.length / 2);
        Check.due("the last day", gang.planned(-1, 1), last);
        for (int i = 0; i < row.length / 2; i++) {
            Check.due("planned(" + i + ", 0)", gang.planned(i, 0), row[2 * i]);
            Check.due("planned(" + i + ", 1)", gang.planned(i, 1), row[2 * i + 1]);
        }
        Check.missing("planned behind the last", () -> gang.planned(row.length / 2, 0));
    }

    private static void oneBehindTheOther() {
        Check.says(0, "A PLAN: LETTERS one behind the other, no two alike;");
        planIs(told(letter(0, 1, 0, 19, 5)), 5, 0, 0, 0);
        planIs(told(letter(0, 1, 0, 0, 5) + letter(0, 1, 0, 0, 4)), 5, 0, 0, 0);
        planIs(told(letter(0, 3, 0, 5, 5) + letter(0, 3, 0, 5, 4)), 9, 5, 0, 0, 1, 3);
        planIs(told(letter(0, 3, 0, 4, 5) + letter(0, 3, 0, 4, 4)), 5, 2, 0, 0);
    }

    private static void asEarlyAsCanBe() {
        Check.says(0, "each as early as can be:");
        ChimneyGang gang = Check.told("chimney 10;winds 9 1 9 9 1 1 9;nest 0 from 4 till 4;" + letter(0, 1, 0, 9, 1)
            + letter(0, 1, 0, 9, 1));
        planIs(gang, 2, 5, 0, 1, 1, 5);
        planIs(told(letter(0, 2, 7, 15, 1)), 1, 8, 0, 7);
        planIs(told(letter(0, 2, 18, 19, 1)), 1, 19, 0, 18);
        planIs(told(letter(0, 3, 18, 19, 1)), 0, -1);
    }

    private static void atAnyChimneyAtFirst() {
        Check.says(0, "the gang is at any CHIMNEY at first, from DAY 0 on;");
        String far = "road 0 1 moves 9;";
        planIs(told(far + letter(0, 1, 0, 0, 3)), 3, 0, 0, 0);
        planIs(told(far + letter(1, 1, 0, 0, 3)), 3, 0, 0, 0);
        planIs(told(far + letter(0, 1, 0, 0, 3) + letter(1, 1, 0, 0, 4)), 4, 0, 1, 0);
    }

    private static void byRoad() {
        Check.says(0, "behind one LETTER it goes by ROAD, and begins the next one on the first DAY then from which it can be "
            + "done.");
        String ahead = letter(0, 2, 0, 1, 1);
        planIs(told(ahead + letter(0, 1, 0, 19, 1)), 2, 2, 0, 0, 1, 2);
        planIs(told(ahead + letter(1, 1, 0, 19, 1)), 2, 3, 0, 0, 1, 3);
        planIs(told("road 0 1 moves 0;" + ahead + letter(1, 1, 0, 19, 1)), 2, 2, 0, 0, 1, 2);
        planIs(told("road 1 0 moves 9;" + ahead + letter(1, 1, 0, 19, 1)), 2, 11, 0, 0, 1, 11);
        planIs(told("road 1 0 moves 9;" + ahead + letter(1, 1, 0, 11, 1)), 2, 11, 0, 0, 1, 11);
        planIs(told("road 1 0 moves 9;" + ahead + letter(1, 1, 0, 10, 1)), 1, 0, 1, 0);
        planIs(told(ahead + letter(1, 2, 0, 4, 1)), 2, 4, 0, 0, 1, 3);
        planIs(told(ahead + letter(1, 2, 0, 3, 1)), 1, 1, 0, 0);
        String all = "chimney 1;chimney 1;road 0 1 moves 9;winds" + Check.times(" 0", 30) + ";";
        planIs(Check.told(all + letter(0, 2, 18, 19, 1) + letter(1, 1, 29, 29, 1)), 2, 29, 0, 18, 1, 29);
        planIs(Check.told(all + letter(0, 2, 19, 20, 1) + letter(1, 1, 29, 29, 1)), 1, 20, 0, 19);
        // by no other road than that from the letter ahead
        planIs(told(letter(0, 1, 1, 19, 1) + letter(1, 1, 0, 0, 1)), 2, 2, 1, 0, 0, 2);
        planIs(Check.told("chimney 1;chimney 1;chimney 1;road 0 1 moves 2;road 1 2 moves 5;road 0 2 moves 0;" + CALM
            + letter(0, 1, 0, 0, 1) + letter(1, 1, 3, 3, 1) + letter(2, 1, 4, 19, 1)), 3, 9, 0, 0, 1, 3, 2, 9);
        // a day behind the last one is no day
        planIs(Check.told("chimney 1;chimney 1;winds" + Check.times(" 0", 30) + ";" + letter(0, 1, 29, 29, 5)
            + letter(1, 1, 29, 29, 4) + letter(0, 1, 0, 0, 1)), 6, 29, 2, 0, 0, 29);
        // over another letter's chimney it is nearer, but that letter is done once
        planIs(Check.told("chimney 1;chimney 1;chimney 1;road 0 2 moves 6;" + CALM + letter(2, 1, 1, 2, 1)
            + letter(2, 1, 7, 11, 2) + letter(0, 1, 2, 5, 2) + letter(1, 1, 3, 9, 0)), 4, 7, 2, 2, 3, 4, 1, 7);
        planIs(Check.told("chimney 1;chimney 1;chimney 1;road 0 1 moves 9;" + CALM + letter(1, 1, 8, 11, 2)
            + letter(2, 2, 0, 7, 2) + letter(0, 1, 2, 8, 2)), 6, 8, 2, 2, 1, 4, 0, 8);
        ChimneyGang waits = Check.told("chimney 1;chimney 1;winds 0 9 9 9 9 0 9 0;" + letter(0, 1, 0, 0, 1)
            + letter(1, 1, 0, 29, 1) + letter(0, 1, 6, 29, 1));
        planIs(waits, 3, 7, 0, 0, 1, 5, 2, 7);
    }

    private static void greatestPrice() {
        Check.says(0, "of PLANS in which each can be done, that of greatest PRICE in all,");
        planIs(told(letter(0, 3, 0, 3, 5) + letter(0, 3, 0, 3, 4) + letter(0, 4, 0, 3, 8)), 8, 3, 2, 0);
        planIs(told(letter(0, 2, 0, 3, 5) + letter(0, 2, 0, 3, 4) + letter(0, 4, 0, 3, 8)), 9, 3, 0, 0, 1, 2);
        planIs(told(letter(0, 1, 0, 0, 5) + letter(0, 1, 19, 19, 1)), 6, 19, 0, 0, 1, 19);
        planIs(told(letter(0, 1, 25, 29, 9999) + letter(0, 1, 0, 29, 1)), 1, 0, 1, 0);
        planIs(told("nest 0 from 0 till 9;" + letter(0, 1, 0, 9, 9999) + letter(1, 1, 0, 9, 1)), 1, 0, 1, 0);
        planIs(told("road 0 1 moves 9;" + letter(0, 1, 0, 9, 1) + letter(1, 1, 0, 9, 2)), 2, 0, 1, 0);
        planIs(Check.told("chimney 5;" + letter(0, 1, 0, 9, 4)), 0, -1);
        StringBuilder turned = new StringBuilder("chimney 10;" + CALM);
        for (int i = 7; i >= 0; i--) {
            turned.append(letter(0, 1, i, i, 9999));
        }
        planIs(Check.told(turned.toString()), 79992, 7, 7, 0, 6, 1, 5, 2, 4, 3, 3, 4, 2, 5, 1, 6, 0, 7);
    }

    private static void endsFirst() {
        Check.says(0, "of like ones that which ends first (the last DAY that it works; NONE of no LETTER),");
        planIs(told(letter(0, 5, 0, 4, 9) + letter(1, 4, 0, 4, 9)), 9, 3, 1, 0);
        planIs(told(letter(0, 1, 5, 5, 1) + letter(0, 1, 0, 9, 1) + letter(0, 1, 9, 9, 0)), 2, 5, 1, 0, 0, 5);
        planIs(told(letter(0, 1, 0, 9, 0)), 0, -1);
        planIs(told(letter(0, 1, 0, 0, 0) + letter(1, 1, 0, 9, 0)), 0, -1);
        ChimneyGang again = told(letter(0, 1, 5, 9, 1));
        planIs(again, 1, 5, 0, 5);
        Check.yard(again, "chimney 1;" + CALM + letter(0, 1, 0, 9, 0));
        planIs(again, 0, -1);
        planIs(again, 0, -1);
        planIs(told(letter(0, 1, 0, 9, 1) + letter(0, 1, 0, 9, 0)), 1, 0, 0, 0);
        planIs(told(letter(0, 1, 5, 9, 0) + letter(0, 1, 0, 9, 1)), 1, 0, 1, 0);
        planIs(told(letter(0, 1, 0, 9, 1) + letter(1, 1, 2, 9, 1) + letter(0, 1, 4, 9, 1)), 3, 4, 0, 0, 1, 2, 2, 4);
        planIs(told(letter(0, 2, 0, 9, 1) + letter(1, 1, 0, 9, 1) + letter(0, 1, 0, 9, 1)), 3, 4, 0, 0, 2, 2, 1, 4);
    }

    private static void firstAsARow() {
        Check.says(0, "(the last DAY that it works; NONE of no LETTER), of like ones the first as a row.");
        planIs(told(letter(0, 2, 0, 9, 3) + letter(0, 2, 0, 9, 3)), 6, 3, 0, 0, 1, 2);
        planIs(told(letter(0, 4, 0, 4, 3) + letter(0, 4, 0, 4, 3)), 3, 3, 0, 0);
        // 1 0 2 would end as early: the last letter waits for its day
        planIs(told(letter(0, 2, 1, 9, 3) + letter(0, 1, 0, 9, 3) + letter(0, 1, 6, 9, 3)), 9, 6, 0, 1, 1, 3, 2, 6);
        planIs(told(letter(0, 2, 1, 9, 3) + letter(0, 1, 0, 9, 3) + letter(0, 1, 4, 9, 3)), 9, 4, 0, 1, 1, 3, 2, 4);
        planIs(told(letter(0, 2, 1, 9, 3) + letter(0, 1, 0, 9, 3) + letter(0, 1, 3, 9, 3)), 9, 3, 1, 0, 0, 1, 2, 3);
        // other letters: 0 and 2 together are worth what 1 is, and take as long
        planIs(told(letter(0, 1, 0, 1, 2) + letter(0, 2, 0, 1, 3) + letter(0, 1, 0, 1, 1)), 3, 1, 0, 0, 2, 1);
        planIs(told(letter(0, 2, 0, 1, 3) + letter(0, 1, 0, 1, 2) + letter(0, 1, 0, 1, 1)), 3, 1, 0, 0);
        planIs(told(letter(0, 1, 2, 2, 1) + letter(0, 1, 0, 1, 1) + letter(0, 1, 0, 1, 1)), 3, 2, 1, 0, 2, 1, 0, 2);
        // a letter that brings nothing comes first, where there is time for it and its way
        planIs(told(letter(0, 1, 0, 9, 0) + letter(0, 1, 3, 9, 1)), 1, 3, 0, 0, 1, 3);
        planIs(told(letter(1, 1, 0, 0, 0) + letter(0, 1, 1, 1, 1)), 1, 1, 1, 1);
        planIs(told("road 0 1 moves 0;" + letter(1, 1, 0, 0, 0) + letter(0, 1, 1, 1, 1)), 1, 1, 0, 0, 1, 1);
    }

    private static void planIsKept() {
        Check.says(9, "THE BEST PLAN: its PRICE; it is kept.");
        ChimneyGang gang = told(letter(0, 2, 3, 9, 7) + letter(1, 1, 0, 9, 2));
        Check.due("plan()", gang.plan(), 9);
        Check.due("a faulty yard", Check.yard(gang, "x"), 1);
        gang.order(3);
        gang.storm(0, 100);
        Check.due("the first letter", gang.planned(0, 0), 1);
        Check.due("the second one", gang.planned(1, 0), 0);
        Check.due("once more", gang.plan(), 9);
        Check.due("the second one", gang.planned(1, 1), 3);
        Check.due("another yard", Check.yard(gang, "chimney 1;" + CALM + letter(0, 1, 4, 9, 3)), 0);
        Check.due("its plan", gang.plan(), 3);
        Check.due("its letter", gang.planned(0, 1), 4);
        Check.due("of none", new ChimneyGang().plan(), 0);
    }

    private static void planned() {
        Check.says(10, "Of the PLAN that is kept: the i-th LETTER (what 0), the DAY it begins (1);");
        ChimneyGang gang = told(letter(0, 2, 9, 12, 1) + letter(1, 3, 0, 9, 1) + letter(0, 1, 5, 6, 1));
        gang.plan();
        int[][] due = {{1, 0}, {2, 5}, {0, 9}};
        for (int i = 0; i < 3; i++) {
            Check.due("planned(" + i + ", 0)", gang.planned(i, 0), due[i][0]);
            Check.due("planned(" + i + ", 1)", gang.planned(i, 1), due[i][1]);
        }
    }

    private static void plannedOfNone() {
        Check.says(10, "i NONE: how many (0), the last DAY (1; NONE).");
        ChimneyGang gang = told(letter(0, 2, 9, 12, 1) + letter(1, 3, 0, 9, 1));
        gang.plan();
        Check.due("how many", gang.planned(-1, 0), 2);
        Check.due("the last day", gang.planned(-1, 1), 10);
        ChimneyGang none = new ChimneyGang();
        none.plan();
        Check.due("how many of none", none.planned(-1, 0), 0);
        Check.due("the last day of none", none.planned(-1, 1), -1);
    }

    private static void plannedMissing() {
        Check.says(10, "NoSuchElementException: none is kept, there is none such, another what.");
        ChimneyGang gang = told(letter(0, 2, 3, 9, 7));
        for (int what = -1; what < 3; what++) {
            int asked = what;
            Check.missing("none is kept", () -> gang.planned(-1, asked));
            Check.missing("none is kept", () -> gang.planned(0, asked));
        }
        gang.plan();
        for (int i : new int[] {-2, 1, 8, Integer.MIN_VALUE, Integer.MAX_VALUE}) {
            Check.missing("planned(" + i + ", 0)", () -> gang.planned(i, 0));
            Check.missing("planned(" + i + ", 1)", () -> gang.planned(i, 1));
        }
        for (int what : new int[] {-1, 2, Integer.MIN_VALUE, Integer.MAX_VALUE}) {
            Check.missing("planned(0, " + what + ")", () -> gang.planned(0, what));
            Check.missing("planned(-1, " + what + ")", () -> gang.planned(-1, what));
        }
        Check.due("a yard", Check.yard(gang, "chimney 1;"), 0);
        Check.missing("none is kept of it", () -> gang.planned(-1, 0));
        gang.plan();
        Check.missing("none is planned", () -> gang.planned(0, 0));
    }

    /** Letters of so many days each at a chimney of ten courses, planned in their order. */
    private static ChimneyGang planned(int... days) {
        StringBuilder text = new StringBuilder("chimney 10;winds" + Check.times(" 0", 30) + ";");
        int[] row = new int[2 * days.length];
        int day = 0;
        for (int i = 0; i < days.length; i++) {
            text.append(letter(0, days[i], 0, 29, 1));
            row[2 * i] = i;
            row[2 * i + 1] = day;
            day += days[i];
        }
        ChimneyGang gang = Check.told(text.toString());
        planIs(gang, days.length, day - 1, row);
        return gang;
    }

    private static void evenIs(ChimneyGang gang, int gangs, int load, int... row) {
        Check.due("even(" + gangs + ")", gang.even(gangs), load);
        for (int i = 0; i < row.length; i++) {
            Check.due("gang(" + i + ") of " + gangs, gang.gang(i), row[i]);
        }
        Check.missing("gang behind the last", () -> gang.gang(row.length));
    }

    private static void onGangs() {
        Check.says(0, "EVEN: LETTERS of the PLAN that is kept, each given to one of m GANGS (2 to 4),");
        ChimneyGang gang = planned(4, 4, 4, 4, 4, 4);
        evenIs(gang, 2, 120, 0, 0, 0, 1, 1, 1);
        evenIs(gang, 3, 80, 0, 0, 1, 1, 2, 2);
        evenIs(gang, 4, 80, 0, 0, 1, 1, 2, 2);
        ChimneyGang eight = planned(1, 1, 1, 1, 1, 1, 1, 1);
        evenIs(eight, 2, 40, 0, 0, 0, 0, 1, 1, 1, 1);
        evenIs(eight, 3, 30, 0, 0, 0, 1, 1, 1, 2, 2);
        evenIs(eight, 4, 20, 0, 0, 1, 1, 2, 2, 3, 3);
        ChimneyGang left = told(letter(0, 1, 0, 0, 1) + letter(1, 9, 0, 8, 0) + letter(0, 1, 1, 1, 1));
        planIs(left, 2, 1, 0, 0, 2, 1);
        evenIs(left, 2, 10, 0, 1);
    }

    private static void leastLoad() {
        Check.says(0, "such that the greatest LOAD of a GANG is least;");
        evenIs(planned(3, 3, 2, 2, 2), 2, 60, 0, 0, 1, 1, 1);
        evenIs(planned(5, 5, 4, 4, 3, 3, 3), 2, 140, 0, 0, 0, 1, 1, 1, 1);
        evenIs(planned(5, 5, 4, 4, 3, 3, 3), 3, 90, 0, 1, 0, 1, 2, 2, 2);
        evenIs(planned(5, 5, 4, 4, 3, 3, 3), 4, 80, 0, 1, 2, 2, 0, 1, 3);
        evenIs(planned(2, 3, 9, 3, 2), 4, 90, 0, 0, 1, 0, 2);
        evenIs(planned(7), 4, 70, 0);
    }

    private static void weights() {
        Check.says(0, "a LETTER weighs its DAYS by the COURSES of its CHIMNEY;");
        ChimneyGang gang = Check.told("chimney 1;chimney 200;chimney 95;" + CALM + letter(0, 9, 0, 8, 1) + letter(1, 1, 10, 10, 1)
            + letter(2, 2, 12, 13, 1));
        planIs(gang, 3, 13, 0, 0, 1, 10, 2, 12);
        evenIs(gang, 2, 200, 0, 1, 0);
        evenIs(gang, 3, 200, 0, 1, 0);
    }

    private static void firstGangs() {
        Check.says(0, "of like ones the first as a row of GANGS (0 ..) by LETTERS as they are planned.");
        evenIs(planned(1, 4, 1), 3, 40, 0, 1, 0);
        evenIs(planned(2, 2), 3, 20, 0, 1);
        evenIs(planned(1, 1, 2), 2, 20, 0, 0, 1);
        evenIs(planned(1, 1, 2), 4, 20, 0, 0, 1);
        ChimneyGang turned = told(letter(0, 3, 3, 9, 1) + letter(0, 2, 8, 12, 1) + letter(0, 1, 0, 0, 1));
        planIs(turned, 3, 9, 2, 0, 0, 3, 1, 8);
        evenIs(turned, 2, 30, 0, 1, 0);
    }

    /** Loads 50, 40, 30, 30. */
    private static ChimneyGang fourPlanned() {
        ChimneyGang gang = told(letter(0, 5, 0, 4, 1) + letter(1, 2, 6, 9, 1) + letter(0, 3, 9, 12, 1)
            + letter(0, 3, 12, 15, 1));
        planIs(gang, 4, 14, 0, 0, 1, 6, 2, 9, 3, 12);
        return gang;
    }

    private static void even() {
        Check.says(44, "EVEN: the greatest LOAD; who has which is kept.");
        ChimneyGang gang = fourPlanned();
        evenIs(gang, 2, 80, 0, 1, 0, 1);
        evenIs(gang, 3, 60, 0, 1, 2, 2);
        evenIs(gang, 4, 50, 0, 1, 2, 3);
        gang.order(1);
        gang.storm(1, 1);
        Check.due("a faulty yard", Check.yard(gang, "x"), 1);
        Check.due("it is kept", gang.gang(3), 3);
        ChimneyGang none = new ChimneyGang();
        none.plan();
        evenIs(none, 2, 0);
        evenIs(none, 4, 0);
    }

    private static void evenOfNone() {
        Check.says(44, "NONE: no PLAN is kept, m is not as told.");
        ChimneyGang none = new ChimneyGang();
        for (int m = 0; m < 6; m++) {
            Check.due("even(" + m + ") without a plan", none.even(m), -1);
        }
        ChimneyGang gang = fourPlanned();
        evenIs(gang, 4, 50, 0, 1, 2, 3);
        for (int m : new int[] {1, 5, 0, -1, Integer.MIN_VALUE, Integer.MAX_VALUE}) {
            Check.due("even(" + m + ")", gang.even(m), -1);
            Check.due("what is kept stays", gang.gang(3), 3);
        }
        Check.due("a yard", Check.yard(gang, ""), 0);
        Check.due("even(2) behind a yard", gang.even(2), -1);
    }

    private static void gang() {
        Check.says(45, "Which GANG has the i-th LETTER of the PLAN by the latest even().");
        ChimneyGang gang = fourPlanned();
        gang.even(4);
        gang.even(2);
        Check.due("gang(0)", gang.gang(0), 0);
        Check.due("gang(1)", gang.gang(1), 1);
        Check.due("gang(2)", gang.gang(2), 0);
        Check.due("gang(3)", gang.gang(3), 1);
    }

    private static void gangMissing() {
        Check.says(45, "NoSuchElementException: there is none; a PLAN, a YARD came since.");
        ChimneyGang gang = fourPlanned();
        Check.missing("gang(0) without even()", () -> gang.gang(0));
        gang.even(2);
        for (int i : new int[] {-1, 4, 7, 8, Integer.MIN_VALUE, Integer.MAX_VALUE}) {
            Check.missing("gang(" + i + ")", () -> gang.gang(i));
        }
        gang.plan();
        Check.missing("gang(0) behind a plan", () -> gang.gang(0));
        gang.even(2);
        Check.due("gang(0) again", gang.gang(0), 0);
        Check.due("a yard", Check.yard(gang, "chimney 1;" + CALM + letter(0, 1, 0, 9, 1)), 0);
        Check.missing("gang(0) behind a yard", () -> gang.gang(0));
        gang.plan();
        Check.missing("gang(0) behind a yard and a plan", () -> gang.gang(0));
        Check.missing("gang(0) of a new object", () -> new ChimneyGang().gang(0));
    }

    private static void chances() {
        Check.says(0, "STORMS: of a DAY a CHANCE (0 to 100; 0 at first) that it storms.");
        ChimneyGang gang = told(letter(0, 9, 0, 8, 1));
        gang.plan();
        Check.due("no storm at first", gang.odds(0), 1000000);
        Check.due("nor ahead of any", gang.odds(1), 1);
        Check.due("storm(0, 0)", gang.storm(0, 0), true);
        Check.due("as at first", gang.odds(0), 1000000);
        Check.due("storm(0, 1)", gang.storm(0, 1), true);
        Check.due("one of a hundred", gang.odds(0), 990000);
        Check.due("storm(8, 99)", gang.storm(8, 99), true);
        Check.due("nearly sure", gang.odds(0), 9900);
        Check.due("storm(8, 100)", gang.storm(8, 100), true);
        Check.due("sure", gang.odds(0), 0);
        Check.due("storm(8, 0)", gang.storm(8, 0), true);
        Check.due("the one told last counts", gang.odds(0), 990000);
    }

    private static void odds() {
        Check.says(0, "ODDS that the PLAN that is kept goes: a million, for each DAY that is worked, one behind the other, "
            + "by 100 less its CHANCE, by 100, cut down each time.");
        ChimneyGang seven = told(letter(0, 7, 1, 8, 1));
        seven.plan();
        for (int day = 1; day < 8; day++) {
            seven.storm(day, 33);
        }
        seven.storm(0, 100);
        seven.storm(8, 100);
        Check.due("0.67 seven times, cut down each time", seven.odds(0), 60606);
        // days 0 and 1, then the road on day 2, then 3 and 4
        ChimneyGang gang = told(letter(0, 2, 0, 9, 1) + letter(1, 2, 0, 9, 1));
        gang.plan();
        gang.storm(2, 100);
        Check.due("the road may storm", gang.odds(0), 1000000);
        gang.storm(0, 33);
        gang.storm(1, 33);
        gang.storm(3, 33);
        Check.due("odds(0)", gang.odds(0), 300763);
        gang.storm(4, 99);
        Check.due("odds(0), cut down", gang.odds(0), 3007);
        ChimneyGang none = new ChimneyGang();
        none.plan();
        none.storm(0, 50);
        Check.due("odds(0) of no letters", none.odds(0), 1000000);
    }

    private static void beforeAStorm() {
        Check.says(0, "BEFORE a storm: how many LETTERS of it are done wholly ahead of the first DAY with a CHANCE above a "
            + "number.");
        ChimneyGang gang = told(letter(0, 2, 0, 9, 1) + letter(1, 2, 0, 9, 1));
        gang.plan();
        int[] done = {0, 0, 1, 1, 1, 2, 2};
        for (int day = 0; day < 7; day++) {
            gang.storm(day, 50);
            Check.due("a storm on day " + day, gang.odds(50), done[day]);
            Check.due("none above 50", gang.odds(51), 2);
            gang.storm(day, 0);
        }
        gang.storm(29, 50);
        gang.storm(4, 51);
        Check.due("above 50: day 4", gang.odds(51), 1);
        Check.due("above 51: none", gang.odds(52), 2);
        gang.storm(1, 51);
        Check.due("the first of two", gang.odds(51), 0);
        ChimneyGang late = Check.told("chimney 1;winds" + Check.times(" 0", 30) + ";" + letter(0, 1, 29, 29, 1));
        late.plan();
        Check.due("done on the last day", late.odds(1), 1);
        late.storm(29, 1);
        Check.due("on which it storms", late.odds(1), 0);
    }

    private static void storm() {
        Check.says(50, "A CHANCE of storm: true.");
        ChimneyGang gang = new ChimneyGang();
        for (int day = 0; day < 30; day++) {
            Check.due("storm(" + day + ", ..)", gang.storm(day, day % 2 * 100), true);
        }
    }

    private static void noStorm() {
        Check.says(50, "False: not as told (DAY, CHANCE).");
        ChimneyGang gang = Check.told("chimney 1;winds" + Check.times(" 0", 30) + ";" + letter(0, 1, 0, 0, 1)
            + letter(0, 1, 29, 29, 1));
        gang.plan();
        for (int not : new int[] {-1, 30, 101, Integer.MIN_VALUE, Integer.MAX_VALUE}) {
            Check.due("storm(" + not + ", 1)", gang.storm(not, 1), false);
            if (not != 30) {
                Check.due("storm(0, " + not + ")", gang.storm(0, not), false);
                Check.due("storm(29, " + not + ")", gang.storm(29, not), false);
            }
        }
        Check.due("none of these counts", gang.odds(0), 1000000);
    }

    private static void oddsByWhat() {
        Check.says(51, "ODDS (what 0); BEFORE a storm, the number being what less 1 (1 to 101).");
        ChimneyGang gang = told(letter(0, 1, 0, 0, 1) + letter(0, 1, 5, 5, 1) + letter(0, 1, 9, 9, 1));
        gang.plan();
        gang.storm(9, 100);
        gang.storm(5, 60);
        gang.storm(0, 1);
        Check.due("odds(0)", gang.odds(0), 0);
        int[][] due = {{1, 0}, {2, 1}, {60, 1}, {61, 2}, {99, 2}, {100, 2}, {101, 3}};
        for (int[] it : due) {
            Check.due("odds(" + it[0] + ")", gang.odds(it[0]), it[1]);
        }
    }

    private static void oddsOfNone() {
        Check.says(51, "NONE: no PLAN is kept.");
        ChimneyGang gang = told(letter(0, 1, 0, 0, 1));
        for (int what : new int[] {0, 1, 101}) {
            Check.due("odds(" + what + ") without a plan", gang.odds(what), -1);
        }
        gang.plan();
        Check.due("odds(0)", gang.odds(0), 1000000);
        Check.yard(gang, "");
        Check.due("odds(0) behind a yard", gang.odds(0), -1);
    }

    private static void oddsMissing() {
        Check.says(51, "NoSuchElementException (ahead): another what.");
        ChimneyGang gang = told(letter(0, 1, 0, 0, 1));
        for (int plans = 0; plans < 2; plans++) {
            for (int what : new int[] {-1, 102, Integer.MIN_VALUE, Integer.MAX_VALUE}) {
                Check.missing("odds(" + what + ")", () -> gang.odds(what));
            }
            gang.plan();
        }
    }
}
