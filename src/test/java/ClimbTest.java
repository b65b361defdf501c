/** Promises 23 to 33: ropes, needs, the rule, climbing, taking back, images. */
public final class ClimbTest {
    private ClimbTest() {
    }

    public static void main(String[] args) {
        ropes();
        needs();
        fewestRopes();
        rule();
        refusals();
        whichRefusesFirst();
        climbing();
        back();
        backOfFifty();
        images();
        Check.end();
    }

    /** Promises 23 and 24. */
    private static void ropes() {
        ChimneyGang gang = new ChimneyGang();
        Check.due("rope(0)", gang.rope(0), -1);
        Check.due("rope(-1)", gang.rope(-1), -1);
        Check.due("rope(10000)", gang.rope(10000), -1);
        Check.missing("life(0)", () -> gang.life(0));
        for (int rope = 0; rope < 20; rope++) {
            Check.due("rope " + rope, gang.rope(rope == 7 ? 9999 : 1 + rope), rope);
        }
        Check.due("the 21st", gang.rope(5), -1);
        Check.due("count(4)", gang.count(4), 20);
        Check.due("life(0)", gang.life(0), 1);
        Check.due("life(7)", gang.life(7), 9999);
        Check.due("life(19)", gang.life(19), 20);
        Check.missing("life(20)", () -> gang.life(20));
        Check.missing("life(-1)", () -> gang.life(-1));
    }

    /** Promise 25. */
    private static void needs() {
        ChimneyGang gang = new ChimneyGang();
        Check.due("need(0)", gang.need(0), -1);
        Check.due("need(-1)", gang.need(-1), -1);
        Check.due("need(10000)", gang.need(10000), -1);
        for (int needs = 1; needs <= 10; needs++) {
            Check.due("need " + needs, gang.need(needs == 3 ? 9999 : 1), needs);
        }
        Check.due("the 11th", gang.need(1), -1);
        Check.due("count(6)", gang.count(6), 10);
        Check.due("nine ones and a great one", gang.ropes(9999), 2);
        Check.due("count(6) then", gang.count(6), 0);
        Check.due("the first again", gang.need(1), 1);
    }

    private static void ropesAre(int fewest, int life, int... needs) {
        ChimneyGang gang = new ChimneyGang();
        for (int need : needs) {
            gang.need(need);
        }
        Check.due("ropes(" + life + ")", gang.ropes(life), fewest);
        Check.due("needs are gone", gang.count(6), 0);
    }

    /** Promise 26: where laying the greatest first, or in turn, takes one rope too many. */
    private static void fewestRopes() {
        ropesAre(0, 10);
        ropesAre(0, -5);
        ropesAre(1, 10, 10);
        ropesAre(-1, 10, 1, 11);
        ropesAre(-1, 0, 1);
        ropesAre(-1, Integer.MIN_VALUE, 9999);
        ropesAre(1, Integer.MAX_VALUE, 9999, 9999, 9999);
        ropesAre(2, 10, 5, 5, 6);
        ropesAre(3, 10, 6, 6, 6);
        ropesAre(3, 10, 3, 3, 3, 3, 4, 4, 4, 6);
        ropesAre(2, 12, 6, 4, 4, 4, 3, 3);
        ropesAre(2, 20, 9, 8, 7, 6, 5, 5);
        ropesAre(10, 9, 5, 5, 5, 5, 5, 5, 5, 5, 5, 5);
        ropesAre(5, 10, 5, 5, 5, 5, 5, 5, 5, 5, 5, 5);
        ropesAre(3, 100, 44, 30, 26, 40, 35, 25, 50, 28, 22);
    }

    private static ChimneyGang yard() {
        ChimneyGang gang = Check.told("chimney 30; chimney 50; winds 6 7 6 0 0 0 0; nest 1 from 2 till 3;");
        gang.rope(200);
        gang.rope(49);
        return gang;
    }

    /** Promise 27. */
    private static void rule() {
        ChimneyGang gang = yard();
        Check.due("6 at first", gang.count(7), 6);
        Check.due("rule(-1)", gang.rule(-1), false);
        Check.due("rule(14)", gang.rule(14), false);
        Check.due("still 6", gang.count(7), 6);
        Check.due("rule(0)", gang.rule(0), true);
        Check.due("day 0 is of more wind", gang.climb(0, 0, 0, 0), 2);
        Check.due("day 4 is of none", gang.climb(0, 0, 0, 4), 0);
        Check.due("rule(12)", gang.rule(12), true);
        Check.due("a day that isn't told", gang.climb(0, 0, 0, 7), 2);
        Check.due("rule(13)", gang.rule(13), true);
        Check.due("and that day by 13", gang.climb(0, 0, 0, 29), 0);
    }

    /** Promises 28 and 29: each refusal, at its edges. */
    private static void refusals() {
        ChimneyGang gang = yard();
        int[][] none = {{-1, 0, 0, 0}, {10, 0, 0, 0}, {0, -1, 0, 0}, {0, 2, 0, 0}, {0, 0, -1, 0}, {0, 0, 2, 0},
            {0, 0, 0, -1}, {0, 0, 0, 30}};
        for (int[] it : none) {
            Check.due("climb of what isn't there", gang.climb(it[0], it[1], it[2], it[3]), 1);
        }
        Check.due("the wind is above the rule", gang.climb(0, 0, 0, 1), 2);
        Check.due("a nest's first day", gang.climb(0, 1, 0, 2), 3);
        Check.due("a nest's last day", gang.climb(0, 1, 0, 3), 3);
        Check.due("the other chimney has none", gang.climb(0, 0, 0, 3), 0);
        Check.due("up already, elsewhere", gang.climb(0, 1, 0, 3), 3);
        Check.due("up already", gang.climb(0, 0, 0, 3), 4);
        Check.due("a master by himself", gang.climb(4, 1, 0, 4), 0);
        Check.due("up another one already", gang.climb(4, 0, 0, 4), 4);
        Check.due("an apprentice by himself", gang.climb(5, 0, 0, 4), 5);
        Check.due("an apprentice another day", gang.climb(5, 1, 0, 5), 5);
        Check.due("an apprentice with a master", gang.climb(5, 1, 0, 4), 0);
        Check.due("another day with an apprentice", gang.climb(5, 0, 0, 3), 0);
        Check.due("a rope one too short", gang.climb(1, 1, 1, 4), 6);
        Check.due("the same for a lesser chimney", gang.climb(1, 0, 1, 4), 0);
        int[] went = {5, 8, 1, 3, 2, 2, 1};
        for (int what = 0; what < 7; what++) {
            int asked = what;
            Check.due("climbs(" + what + ")", gang.climbs(asked), went[what]);
        }
        Check.missing("climbs(7)", () -> gang.climbs(7));
        Check.missing("climbs(-1)", () -> gang.climbs(-1));
        Check.due("without a yard", new ChimneyGang().climb(0, 0, 0, 0), 1);
    }

    /** Of two that refuse the least. */
    private static void whichRefusesFirst() {
        ChimneyGang gang = Check.told("chimney 30; chimney 50; winds 0 9 0 9; nest 0 from 1 till 2;");
        gang.rope(30);
        gang.rope(1);
        Check.due("1 ahead of 2", gang.climb(0, 0, 2, 1), 1);
        Check.due("2 ahead of 3", gang.climb(0, 0, 0, 1), 2);
        Check.due("up", gang.climb(0, 1, 0, 2), 6);
        gang.rope(50);
        Check.due("up", gang.climb(0, 1, 2, 2), 0);
        Check.due("3 ahead of 4", gang.climb(0, 0, 2, 2), 3);
        Check.due("3 ahead of 5", gang.climb(9, 0, 1, 2), 3);
        Check.due("4 ahead of 6", gang.climb(0, 1, 1, 2), 4);
        Check.due("5 ahead of 6", gang.climb(9, 0, 1, 0), 5);
        gang.rope(99);
        Check.due("an apprentice up", gang.climb(9, 1, 3, 2), 0);
        Check.due("4 ahead of 5: he is up", gang.climb(9, 1, 3, 2), 4);
        Check.due("an apprentice is no master", gang.climb(8, 0, 3, 0), 5);
    }

    /** Promises 28 and 30. */
    private static void climbing() {
        ChimneyGang gang = yard();
        Check.due("up", gang.climb(0, 1, 0, 0), 0);
        Check.due("life", gang.life(0), 150);
        Check.due("up", gang.climb(9, 1, 0, 0), 0);
        Check.due("life", gang.life(0), 100);
        Check.due("up", gang.climb(3, 1, 0, 0), 0);
        Check.due("up", gang.climb(4, 1, 0, 4), 0);
        Check.due("worn to nothing", gang.life(0), 0);
        Check.due("no more", gang.climb(4, 0, 0, 5), 6);
        Check.due("up(1, 0)", gang.up(1, 0), 1 << 9 | 1 << 3 | 1);
        Check.due("up(1, 4)", gang.up(1, 4), 16);
        Check.due("up(0, 0)", gang.up(0, 0), 0);
        Check.due("up(1, 29)", gang.up(1, 29), 0);
        Check.missing("up(2, 0)", () -> gang.up(2, 0));
        Check.missing("up(-1, 0)", () -> gang.up(-1, 0));
        Check.missing("up(0, 30)", () -> gang.up(0, 30));
        Check.missing("up(0, -1)", () -> gang.up(0, -1));
    }

    /** Promise 31: the latest first, whatever the rule says by then. */
    private static void back() {
        ChimneyGang gang = yard();
        Check.due("nothing to take back", gang.back(), -1);
        gang.climb(2, 0, 0, 0);
        gang.climb(7, 0, 0, 0);
        gang.climb(3, 1, 0, 0);
        gang.climb(3, 1, 0, 0);
        Check.due("climbs(0)", gang.climbs(0), 3);
        Check.due("back()", gang.back(), 3);
        Check.due("nobody there", gang.up(1, 0), 0);
        Check.due("life is back", gang.life(0), 140);
        Check.due("it counts no more", gang.climbs(0), 2);
        Check.due("what was refused does", gang.climbs(4), 1);
        gang.climb(3, 0, 1, 0);
        Check.due("the other rope", gang.life(1), 19);
        gang.rule(0);
        Check.due("back() whatever the rule", gang.back(), 3);
        Check.due("the other rope is back", gang.life(1), 49);
        Check.due("back()", gang.back(), 7);
        Check.due("only the master", gang.up(0, 0), 4);
        Check.due("back()", gang.back(), 2);
        Check.due("back() of none", gang.back(), -1);
        Check.due("all life", gang.life(0), 200);
        Check.due("none went", gang.climbs(0), 0);
        Check.due("an empty day", gang.up(0, 0), 0);
    }

    private static ChimneyGang climbed(int many) {
        ChimneyGang gang = Check.told("chimney 2; winds 0 0 0 0 0 0 0 0 0 0 0 0 0;");
        gang.rope(9999);
        for (int i = 0; i < many; i++) {
            Check.due("climb " + i, gang.climb(i % 5, 0, 0, i / 5), 0);
        }
        return gang;
    }

    private static void backOfFifty() {
        ChimneyGang gang = climbed(53);
        for (int i = 52; i > 2; i--) {
            Check.due("back of climb " + i, gang.back(), i % 5);
        }
        Check.due("no more than fifty", gang.back(), -1);
        Check.due("three stay", gang.climbs(0), 3);
        Check.due("three are up", gang.up(0, 0), 7);
        Check.due("their rope stays worn", gang.life(0), 9993);
        Check.due("fifty and one more", gang.climb(3, 0, 0, 0), 0);
        Check.due("it is back", gang.back(), 3);
        ChimneyGang fifty = climbed(50);
        for (int i = 49; i >= 0; i--) {
            Check.due("back of climb " + i, fifty.back(), i % 5);
        }
        Check.due("none is up", fifty.up(0, 0), 0);
    }

    /** Promises 32 and 33. */
    private static void images() {
        ChimneyGang gang = yard();
        Check.due("no image", gang.restore(), false);
        gang.climb(0, 0, 0, 0);
        gang.climb(0, 0, 0, 0);
        gang.image();
        gang.climb(1, 1, 0, 4);
        gang.climb(1, 9, 0, 4);
        gang.rope(77);
        gang.rule(9);
        gang.need(5);
        Check.due("restore()", gang.restore(), true);
        Check.due("ropes", gang.count(4), 2);
        Check.missing("the new rope is gone", () -> gang.life(2));
        Check.due("life", gang.life(0), 170);
        Check.due("up(1, 4)", gang.up(1, 4), 0);
        Check.due("up(0, 0)", gang.up(0, 0), 1);
        Check.due("climbs(0)", gang.climbs(0), 1);
        Check.due("climbs(1)", gang.climbs(1), 0);
        Check.due("climbs(4)", gang.climbs(4), 1);
        Check.due("the rule", gang.count(7), 6);
        Check.due("needs are not of the image", gang.count(6), 1);
        Check.due("what can be taken back", gang.back(), 0);
        Check.due("no more", gang.back(), -1);
        Check.due("the image is still there", gang.restore(), true);
        Check.due("and so is he", gang.up(0, 0), 1);
        Check.due("and can be taken back", gang.back(), 0);
        gang.image();
        Check.due("in place of another one", gang.restore(), true);
        Check.due("nobody up in it", gang.up(0, 0), 0);
        Check.due("a faulty yard", Check.yard(gang, ";"), 1);
        Check.due("leaves it", gang.restore(), true);
        Check.due("a yard", Check.yard(gang, ""), 0);
        Check.due("takes it away", gang.restore(), false);
    }
}
