/** Promises 9, 10, 44, 45, 50, 51: the best plan, gangs laid even, storms. */
public final class PlanTest {
    private static final String CALM = "winds 0 0 0 0 0 0 0 0 0 0 0 0 0 0 0 0 0 0 0 0;";

    private PlanTest() {
    }

    public static void main(String[] args) {
        empty();
        greatestPrice();
        endsFirst();
        firstAsARow();
        roadsBetween();
        asEarlyAsCanBe();
        priceless();
        eightLetters();
        even();
        evenIsGone();
        storms();
        Check.end();
    }

    private static String letter(int chimney, int days, int from, int till, int price) {
        return "letter " + chimney + " days " + days + " wind 5 from " + from + " till " + till + " price " + price + ";";
    }

    private static ChimneyGang told(String letters) {
        return Check.told("chimney 10; chimney 20;" + CALM + letters);
    }

    private static void planIs(ChimneyGang gang, int price, int last, int... row) {
        Check.due("plan()", gang.plan(), price);
        Check.due("how many", gang.planned(-1, 0), row.length / 2);
        Check.due("the last day", gang.planned(-1, 1), last);
        for (int i = 0; i < row.length / 2; i++) {
            int at = i;
            Check.due("planned(" + i + ", 0)", gang.planned(at, 0), row[2 * i]);
            Check.due("planned(" + i + ", 1)", gang.planned(at, 1), row[2 * i + 1]);
        }
    }

    private static void empty() {
        ChimneyGang gang = new ChimneyGang();
        Check.missing("none is kept", () -> gang.planned(-1, 0));
        Check.missing("none is kept, another what", () -> gang.planned(-1, 2));
        planIs(gang, 0, -1);
        Check.missing("planned(0, 0)", () -> gang.planned(0, 0));
        Check.missing("planned(-2, 0)", () -> gang.planned(-2, 0));
        Check.missing("planned(-1, 2)", () -> gang.planned(-1, 2));
        Check.missing("planned(-1, -1)", () -> gang.planned(-1, -1));
        ChimneyGang one = told(letter(0, 2, 3, 9, 7));
        Check.missing("none is kept of this yard", () -> one.planned(-1, 0));
        planIs(one, 7, 4, 0, 3);
        Check.missing("planned(1, 0)", () -> one.planned(1, 0));
        Check.missing("planned(0, 2)", () -> one.planned(0, 2));
    }

    /** Two small letters that leave no room for a dear one are left out, and the other way about. */
    private static void greatestPrice() {
        planIs(told(letter(0, 3, 0, 3, 5) + letter(0, 3, 0, 3, 4) + letter(0, 4, 0, 3, 8)), 8, 3, 2, 0);
        planIs(told(letter(0, 2, 0, 3, 5) + letter(0, 2, 0, 3, 4) + letter(0, 4, 0, 3, 8)), 9, 3, 0, 0, 1, 2);
    }

    /** Of one price the plan that ends first, though another one comes ahead as a row. */
    private static void endsFirst() {
        planIs(told(letter(0, 5, 0, 4, 9) + letter(1, 4, 0, 4, 9)), 9, 3, 1, 0);
        planIs(told(letter(0, 1, 5, 5, 1) + letter(0, 1, 0, 9, 1) + letter(0, 1, 9, 9, 0)), 2, 5, 1, 0, 0, 5);
    }

    private static void firstAsARow() {
        planIs(told(letter(0, 2, 0, 9, 3) + letter(0, 2, 0, 9, 3)), 6, 3, 0, 0, 1, 2);
        // 1 0 2 ends as early as 0 1 2 would: the last letter waits for its day
        planIs(told(letter(0, 2, 1, 9, 3) + letter(0, 1, 0, 9, 3) + letter(0, 1, 6, 9, 3)), 9, 6, 0, 1, 1, 3, 2, 6);
        // of like ones other letters, too
        planIs(told(letter(0, 4, 0, 4, 3) + letter(0, 4, 0, 4, 3)), 3, 3, 0, 0);
    }

    private static void roadsBetween() {
        planIs(told(letter(0, 1, 0, 9, 1) + letter(1, 1, 0, 9, 1)), 2, 2, 0, 0, 1, 2);
        planIs(told("road 0 1 moves 0;" + letter(0, 1, 0, 9, 1) + letter(1, 1, 0, 9, 1)), 2, 1, 0, 0, 1, 1);
        planIs(told("road 1 0 moves 4;" + letter(0, 1, 0, 9, 1) + letter(1, 1, 0, 9, 1)), 2, 5, 0, 0, 1, 5);
        planIs(told("road 0 1 moves 9;" + letter(0, 1, 0, 9, 1) + letter(1, 1, 0, 9, 2)), 2, 0, 1, 0);
        planIs(told(letter(0, 1, 0, 9, 1) + letter(0, 1, 0, 9, 1)), 2, 1, 0, 0, 1, 1);
    }

    private static void asEarlyAsCanBe() {
        ChimneyGang gang = Check.told("chimney 10; winds 9 1 9 9 1 1 9; nest 0 from 4 till 4;" + letter(0, 1, 0, 9, 1)
            + letter(0, 1, 0, 9, 1));
        planIs(gang, 2, 5, 0, 1, 1, 5);
    }

    private static void priceless() {
        planIs(told(letter(0, 1, 0, 9, 0)), 0, -1);
        // of like price and end the first as a row, though its first letter brings nothing
        planIs(told(letter(0, 1, 0, 9, 0) + letter(0, 1, 3, 9, 1)), 1, 3, 0, 0, 1, 3);
        planIs(told(letter(0, 1, 0, 9, 1) + letter(0, 1, 0, 9, 0)), 1, 0, 0, 0);
        planIs(Check.told("chimney 5;" + letter(0, 1, 0, 9, 4)), 0, -1);
    }

    private static void eightLetters() {
        StringBuilder letters = new StringBuilder("chimney 10;" + CALM);
        for (int i = 7; i >= 0; i--) {
            letters.append(letter(0, 1, i, i, 100));
        }
        planIs(Check.told(letters.toString()), 800, 7, 7, 0, 6, 1, 5, 2, 4, 3, 3, 4, 2, 5, 1, 6, 0, 7);
    }

    private static ChimneyGang fourPlanned() {
        // loads 50, 40, 30, 30
        ChimneyGang gang = told(letter(0, 5, 0, 4, 1) + letter(1, 2, 6, 9, 1) + letter(0, 3, 9, 12, 1)
            + letter(0, 3, 12, 15, 1));
        planIs(gang, 4, 14, 0, 0, 1, 6, 2, 9, 3, 12);
        return gang;
    }

    private static void gangsAre(ChimneyGang gang, int... gangs) {
        for (int i = 0; i < gangs.length; i++) {
            int at = i;
            Check.due("gang(" + i + ")", gang.gang(at), gangs[i]);
        }
        Check.missing("gang behind the last", () -> gang.gang(gangs.length));
        Check.missing("gang(-1)", () -> gang.gang(-1));
    }

    /** Promises 44 and 45. */
    private static void even() {
        ChimneyGang gang = fourPlanned();
        Check.missing("gang(0) without even()", () -> gang.gang(0));
        Check.due("even(2)", gang.even(2), 80);
        gangsAre(gang, 0, 1, 0, 1);
        Check.due("even(3)", gang.even(3), 60);
        gangsAre(gang, 0, 1, 2, 2);
        Check.due("even(4)", gang.even(4), 50);
        gangsAre(gang, 0, 1, 2, 3);
        Check.due("even(1)", gang.even(1), -1);
        Check.due("even(5)", gang.even(5), -1);
        gangsAre(gang, 0, 1, 2, 3);
        Check.due("even(0)", new ChimneyGang().even(0), -1);
        ChimneyGang none = new ChimneyGang();
        Check.due("even(2) without a plan", none.even(2), -1);
        none.plan();
        Check.due("even(2) of no letters", none.even(2), 0);
        gangsAre(none);
        // 40 stands alone, and of the two small ones the first as a row: both with the first gang
        ChimneyGang low = told(letter(0, 1, 0, 0, 1) + letter(1, 2, 2, 3, 1) + letter(0, 1, 5, 5, 1));
        low.plan();
        Check.due("even(3) of one great load", low.even(3), 40);
        gangsAre(low, 0, 1, 0);
    }

    private static void evenIsGone() {
        ChimneyGang gang = fourPlanned();
        gang.even(2);
        gang.plan();
        Check.missing("gang(0) behind a plan", () -> gang.gang(0));
        gang.even(2);
        Check.due("a faulty yard", Check.yard(gang, "x"), 1);
        Check.due("gang(1) behind it", gang.gang(1), 1);
        Check.due("a yard", Check.yard(gang, ""), 0);
        Check.missing("gang(0) behind a yard", () -> gang.gang(0));
        Check.due("even(2) behind a yard", gang.even(2), -1);
    }

    /** Promises 50 and 51. */
    private static void storms() {
        ChimneyGang gang = new ChimneyGang();
        Check.due("storm(-1, 1)", gang.storm(-1, 1), false);
        Check.due("storm(30, 1)", gang.storm(30, 1), false);
        Check.due("storm(0, -1)", gang.storm(0, -1), false);
        Check.due("storm(0, 101)", gang.storm(0, 101), false);
        Check.due("storm(0, 33)", gang.storm(0, 33), true);
        Check.due("storm(1, 33)", gang.storm(1, 33), true);
        Check.due("storm(3, 33)", gang.storm(3, 33), true);
        Check.due("storm(29, 100)", gang.storm(29, 100), true);
        Check.due("storm(2, 100)", gang.storm(2, 100), true);
        Check.due("odds(0) without a plan", gang.odds(0), -1);
        Check.due("odds(1) without a plan", gang.odds(1), -1);
        Check.missing("odds(102): ahead of that", () -> gang.odds(102));
        Check.missing("odds(-1)", () -> gang.odds(-1));
        Check.yard(gang, "chimney 10; chimney 20;" + CALM + letter(0, 2, 0, 9, 1) + letter(1, 2, 0, 9, 1));
        gang.plan();
        // days 0 and 1, then the road on day 2, then 3 and 4: .67 thrice, cut down each time
        Check.due("odds(0)", gang.odds(0), 300763);
        gang.storm(4, 99);
        Check.due("odds(0), cut down", gang.odds(0), 3007);
        Check.due("ahead of any storm", gang.odds(1), 0);
        Check.due("above 32", gang.odds(33), 0);
        Check.due("above 33: day 2", gang.odds(34), 1);
        Check.due("above 99: day 2", gang.odds(100), 1);
        Check.due("above 100: none", gang.odds(101), 2);
        gang.storm(2, 0);
        Check.due("above 33: day 4", gang.odds(34), 1);
        gang.storm(4, 0);
        gang.storm(5, 50);
        Check.due("above 33: day 5", gang.odds(34), 2);
        gang.storm(1, 100);
        Check.due("no odds", gang.odds(0), 0);
        ChimneyGang none = new ChimneyGang();
        none.plan();
        none.storm(0, 50);
        Check.due("odds(0) of no letters", none.odds(0), 1000000);
        Check.due("odds(1) of no letters", none.odds(1), 0);
    }
}
