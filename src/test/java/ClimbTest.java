/** Promises 23 to 33: ropes, needs, the rule, climbing, taking back, images. */
public final class ClimbTest {
    private ClimbTest() {
    }

    public static void main(String[] args) {
        sentences();
        Check.end();
    }

    static void sentences() {
        twentyRopes();
        wornByCourses();
        tenNeeds();
        menAndMasters();
        leastRefusal();
        noSuchOnes();
        aboveTheRule();
        nestsRefuse();
        upAlready();
        apprentices();
        tooLittleLife();
        latestFifty();
        nothingElseIsAsked();
        whatAnImageKeeps();
        rope();
        ropeNot();
        life();
        lifeMissing();
        need();
        needNot();
        ropes();
        ropesNever();
        needsGone();
        rule();
        ruleNot();
        climb();
        climbs();
        climbsMissing();
        up();
        upMissing();
        back();
        backNone();
        image();
        restore();
        restoreNot();
    }

    private static void twentyRopes() {
        Check.says(0, "ROPES 0, 1 .. (at most 20) have a LIFE;");
        ChimneyGang gang = new ChimneyGang();
        for (int rope = 0; rope < 20; rope++) {
            Check.due("count(4)", gang.count(4), rope);
            Check.due("rope " + rope, gang.rope(100 + rope), rope);
        }
        Check.due("the 21st", gang.rope(5), -1);
        Check.due("count(4)", gang.count(4), 20);
        for (int rope = 0; rope < 20; rope++) {
            Check.due("life(" + rope + ")", gang.life(rope), 100 + rope);
        }
    }

    private static void wornByCourses() {
        Check.says(0, "so many courses climbed wear off as much.");
        ChimneyGang gang = Check.told("chimney 30;chimney 200;chimney 1;winds 0 0 0;");
        gang.rope(231);
        gang.rope(9999);
        gang.climb(0, 0, 0, 0);
        Check.due("30 courses", gang.life(0), 201);
        gang.climb(1, 1, 0, 0);
        Check.due("200 courses", gang.life(0), 1);
        gang.climb(2, 2, 0, 0);
        Check.due("one course", gang.life(0), 0);
        Check.due("the other rope", gang.life(1), 9999);
        gang.climb(3, 2, 0, 0);
        Check.due("what is refused wears nothing off", gang.life(0), 0);
    }

    private static void ropesAre(int fewest, int life, int... needs) {
        ChimneyGang gang = new ChimneyGang();
        for (int i = 0; i < needs.length; i++) {
            Check.due("need " + i, gang.need(needs[i]), i + 1);
        }
        Check.due("ropes(" + life + ") for " + java.util.Arrays.toString(needs), gang.ropes(life), fewest);
    }

    private static void tenNeeds() {
        Check.says(0, "FEWEST ROPES: new ones of one LIFE, into which needs (at most 10) are laid such that none has more than its "
            + "LIFE.");
        ropesAre(0, 10);
        ropesAre(1, 10, 10);
        ropesAre(1, 10, 4, 6);
        ropesAre(2, 10, 4, 7);
        ropesAre(2, 10, 5, 5, 6);
        ropesAre(3, 10, 6, 6, 6);
        // laid the greatest first, or in turn, these take one rope too many
        ropesAre(2, 12, 6, 4, 4, 4, 3, 3);
        ropesAre(2, 12, 3, 3, 4, 4, 4, 6);
        ropesAre(2, 20, 9, 8, 7, 6, 5, 5);
        ropesAre(3, 100, 44, 30, 26, 40, 35, 25, 50, 28, 22);
        ropesAre(3, 10, 3, 3, 3, 3, 4, 4, 4, 6);
        ropesAre(10, 9, 5, 5, 5, 5, 5, 5, 5, 5, 5, 5);
        ropesAre(5, 10, 5, 5, 5, 5, 5, 5, 5, 5, 5, 5);
        ropesAre(10, 9999, 9999, 9999, 9999, 9999, 9999, 9999, 9999, 9999, 9999, 9999);
        ropesAre(5, 9999, 1, 9998, 2, 9997, 3, 9996, 4, 9995, 5, 9994);
        ropesAre(6, 9998, 1, 9998, 2, 9997, 3, 9996, 4, 9995, 5, 9994);
    }

    private static void menAndMasters() {
        Check.says(0, "CLIMBING: MEN 0 to 9, MASTERS or APPRENTICES (0 to 4 are MASTERS).");
        ChimneyGang gang = Check.told("chimney 1;winds 0 0 0 0 0 0 0 0 0 0;");
        gang.rope(9999);
        for (int man = 0; man < 10; man++) {
            Check.due(man + " by himself", gang.climb(man, 0, 0, man), man < 5 ? 0 : 5);
        }
        for (int man = 5; man < 10; man++) {
            Check.due(man + " with a master", gang.climb(man, 0, 0, man - 5), 0);
        }
        Check.due("man 10", gang.climb(10, 0, 0, 0), 1);
        Check.due("man -1", gang.climb(-1, 0, 0, 0), 1);
    }

    private static void leastRefusal() {
        Check.says(0, "A man goes up a CHIMNEY by a ROPE on a DAY; it is refused, the least that is so:");
        ChimneyGang gang = Check.told("chimney 30;chimney 50;winds 0 9 0 9;nest 0 from 1 till 2;");
        gang.rope(30);
        gang.rope(1);
        gang.rope(50);
        gang.rope(99);
        Check.due("1 ahead of 2: no rope", gang.climb(0, 0, 4, 1), 1);
        Check.due("1 ahead of 2 and 3: no man", gang.climb(10, 0, 0, 1), 1);
        Check.due("1 ahead of 2: no chimney", gang.climb(0, 2, 0, 1), 1);
        Check.due("2 ahead of 3", gang.climb(0, 0, 0, 1), 2);
        Check.due("2 ahead of 3, 5 and 6", gang.climb(9, 0, 1, 1), 2);
        Check.due("2 ahead of 5 and 6", gang.climb(9, 0, 1, 3), 2);
        Check.due("6 alone", gang.climb(0, 1, 0, 2), 6);
        Check.due("up", gang.climb(0, 1, 2, 2), 0);
        Check.due("3 ahead of 4", gang.climb(0, 0, 2, 2), 3);
        Check.due("3 ahead of 5 and 6", gang.climb(9, 0, 1, 2), 3);
        Check.due("4 ahead of 6", gang.climb(0, 1, 1, 2), 4);
        Check.due("5 ahead of 6", gang.climb(9, 0, 1, 0), 5);
        Check.due("an apprentice up", gang.climb(9, 1, 3, 2), 0);
        Check.due("4 though there is a master", gang.climb(9, 1, 3, 2), 4);
        gang.rule(13);
        gang.rope(9999);
        gang.climb(1, 1, 4, 3);
        gang.climb(8, 1, 4, 3);
        Check.due("4 ahead of 5: up elsewhere, and no master here", gang.climb(8, 0, 4, 3), 4);
        gang.rule(8);
        Check.due("2 ahead of 4", gang.climb(8, 0, 4, 3), 2);
    }

    private static ChimneyGang yard() {
        ChimneyGang gang = Check.told("chimney 30;chimney 50;winds 6 7 6 0 0 0 0;nest 1 from 2 till 3;");
        gang.rope(200);
        gang.rope(49);
        return gang;
    }

    private static void noSuchOnes() {
        Check.says(0, "1 no such man, CHIMNEY, ROPE, DAY (0 to 29);");
        ChimneyGang gang = yard();
        int refused = 0;
        for (int not : new int[] {-1, Integer.MIN_VALUE, Integer.MAX_VALUE}) {
            Check.due("no such man", gang.climb(not, 0, 0, 0), 1);
            Check.due("no such chimney", gang.climb(0, not, 0, 0), 1);
            Check.due("no such rope", gang.climb(0, 0, not, 0), 1);
            Check.due("no such day", gang.climb(0, 0, 0, not), 1);
            refused += 4;
        }
        Check.due("man 10", gang.climb(10, 0, 0, 0), 1);
        Check.due("chimney 2", gang.climb(0, 2, 0, 0), 1);
        Check.due("rope 2", gang.climb(0, 0, 2, 0), 1);
        Check.due("day 30", gang.climb(0, 0, 0, 30), 1);
        Check.due("all of it counts", gang.climbs(1), refused + 4);
        gang.rule(13);
        Check.due("day 29", gang.climb(0, 0, 0, 29), 0);
        Check.due("day 0, man 9 with one", gang.climb(4, 0, 0, 0) + gang.climb(9, 0, 0, 0), 0);
        ChimneyGang bare = new ChimneyGang();
        Check.due("without a yard", bare.climb(0, 0, 0, 0), 1);
        bare.rope(9);
        Check.due("with a rope, without a yard", bare.climb(0, 0, 0, 0), 1);
        ChimneyGang all = Check.told(Check.times("chimney 1;", 12) + "winds 0;");
        for (int rope = 0; rope < 20; rope++) {
            all.rope(1);
        }
        Check.due("chimney 11, rope 19", all.climb(0, 11, 19, 0), 0);
        Check.due("chimney 12", all.climb(1, 12, 18, 0), 1);
        Check.due("rope 20", all.climb(1, 0, 20, 0), 1);
    }

    private static void aboveTheRule() {
        Check.says(0, "2 the WIND is above the RULE (6 at first);");
        ChimneyGang gang = yard();
        Check.due("wind 6", gang.climb(0, 0, 0, 0), 0);
        Check.due("wind 7", gang.climb(0, 0, 0, 1), 2);
        gang.rule(7);
        Check.due("wind 7 by rule 7", gang.climb(0, 0, 0, 1), 0);
        gang.rule(0);
        Check.due("wind 0 by rule 0", gang.climb(0, 0, 0, 4), 0);
        Check.due("wind 6 by rule 0", gang.climb(1, 0, 0, 0), 2);
        gang.rule(12);
        Check.due("a day that isn't told, by rule 12", gang.climb(0, 0, 0, 7), 2);
        gang.rule(13);
        Check.due("a day that isn't told, by rule 13", gang.climb(0, 0, 0, 7), 0);
    }

    private static void nestsRefuse() {
        Check.says(0, "3 a NEST;");
        ChimneyGang gang = yard();
        gang.rule(7);
        Check.due("the day ahead of it", gang.climb(0, 1, 0, 1), 0);
        Check.due("its first day", gang.climb(0, 1, 0, 2), 3);
        Check.due("its last day", gang.climb(0, 1, 0, 3), 3);
        Check.due("the day behind it", gang.climb(0, 1, 0, 4), 0);
        Check.due("the other chimney", gang.climb(0, 0, 0, 3), 0);
    }

    private static void upAlready() {
        Check.says(0, "4 he is up one already that DAY;");
        ChimneyGang gang = yard();
        Check.due("up", gang.climb(4, 0, 0, 4), 0);
        Check.due("the same once more", gang.climb(4, 0, 0, 4), 4);
        Check.due("another chimney", gang.climb(4, 1, 0, 4), 4);
        Check.due("another rope", gang.climb(4, 0, 1, 4), 4);
        Check.due("another day", gang.climb(4, 0, 0, 5), 0);
        Check.due("another man", gang.climb(3, 0, 0, 4), 0);
        ChimneyGang twelve = Check.told(Check.times("chimney 1;", 12) + "winds 0;");
        twelve.rope(99);
        Check.due("up the last one", twelve.climb(0, 11, 0, 0), 0);
        Check.due("so not the first", twelve.climb(0, 0, 0, 0), 4);
        Check.due("up the first one", twelve.climb(1, 0, 0, 0), 0);
        Check.due("so not the last", twelve.climb(1, 11, 0, 0), 4);
    }

    private static void apprentices() {
        Check.says(0, "5 an APPRENTICE, and no MASTER is up that CHIMNEY that DAY;");
        ChimneyGang gang = yard();
        gang.climb(4, 1, 0, 4);
        Check.due("his day, another chimney", gang.climb(5, 0, 0, 4), 5);
        Check.due("his chimney, another day", gang.climb(5, 1, 0, 5), 5);
        Check.due("his chimney, his day", gang.climb(5, 1, 0, 4), 0);
        Check.due("an apprentice is no master", gang.climb(6, 0, 0, 5), 5);
        gang.climb(0, 0, 0, 5);
        Check.due("with man 0", gang.climb(9, 0, 0, 5), 0);
        Check.due("a master by himself", gang.climb(3, 0, 0, 6), 0);
    }

    private static void tooLittleLife() {
        Check.says(0, "6 the ROPE has less LIFE than the CHIMNEY has COURSES.");
        ChimneyGang gang = yard();
        Check.due("one less", gang.climb(1, 1, 1, 4), 6);
        Check.due("more", gang.climb(1, 0, 1, 4), 0);
        Check.due("what is left is less", gang.climb(2, 0, 1, 4), 6);
        gang.rope(50);
        Check.due("just as much", gang.climb(2, 1, 2, 4), 0);
        Check.due("nothing is left", gang.life(2), 0);
        Check.due("nothing is less", gang.climb(3, 0, 2, 4), 6);
    }

    private static ChimneyGang climbed(int many) {
        ChimneyGang gang = Check.told("chimney 2;winds 0 0 0 0 0 0 0 0 0 0 0 0 0 0 0 0 0 0 0 0 0 0 0 0 0;");
        gang.rope(9999);
        for (int i = 0; i < many; i++) {
            Check.due("climb " + i, gang.climb(i % 5, 0, 0, i / 5), 0);
        }
        return gang;
    }

    private static void backTo(ChimneyGang gang, int from, int to) {
        for (int i = from; i >= to; i--) {
            Check.due("back of climb " + i, gang.back(), i % 5);
        }
        Check.due("no more", gang.back(), -1);
    }

    private static void latestFifty() {
        Check.says(0, "The latest 50 that went can be taken back");
        backTo(climbed(49), 48, 0);
        backTo(climbed(50), 49, 0);
        backTo(climbed(51), 50, 1);
        backTo(climbed(120), 119, 70);
        ChimneyGang gang = climbed(53);
        backTo(gang, 52, 3);
        Check.due("three stay", gang.climbs(0), 3);
        Check.due("three are up", gang.up(0, 0), 7);
        Check.due("their rope stays worn", gang.life(0), 9993);
        Check.due("one more", gang.climb(3, 0, 0, 0), 0);
        Check.due("it is taken back", gang.back(), 3);
        Check.due("but not the three", gang.back(), -1);
        ChimneyGang refused = climbed(50);
        for (int i = 0; i < 60; i++) {
            refused.climb(0, 0, 0, 0);
        }
        backTo(refused, 49, 0);
        Check.due("what was refused isn't taken back", refused.climbs(4), 60);
    }

    private static void nothingElseIsAsked() {
        Check.says(0, "(nothing else is asked then).");
        ChimneyGang gang = yard();
        gang.climb(2, 0, 0, 0);
        gang.climb(7, 0, 0, 0);
        gang.climb(3, 1, 0, 0);
        gang.rule(0);
        Check.due("whatever the rule", gang.back(), 3);
        Check.due("the apprentice first", gang.back(), 7);
        gang.rule(6);
        gang.climb(8, 0, 0, 0);
        ChimneyGang twin = yard();
        twin.climb(8, 0, 0, 0);
        twin.climb(2, 0, 0, 0);
        twin.climb(4, 0, 0, 0);
        twin.climb(8, 0, 0, 0);
        twin.climb(4, 0, 0, 3);
        Check.due("the latest", twin.back(), 4);
        Check.due("the apprentice", twin.back(), 8);
        Check.due("a master though another one is up", twin.back(), 4);
        Check.due("the last master", twin.back(), 2);
        Check.due("nobody", twin.back(), -1);
        Check.due("who was refused never went", twin.climbs(5), 1);
    }

    private static void whatAnImageKeeps() {
        Check.says(0, "AN IMAGE keeps ROPES with their LIFE, who is up, how climbing went, the RULE, and what can be taken back.");
        ChimneyGang gang = yard();
        gang.climb(0, 0, 0, 0);
        gang.climb(6, 0, 0, 0);
        gang.climb(0, 0, 0, 0);
        gang.climb(0, 0, 9, 0);
        gang.image();
        gang.climb(1, 1, 0, 4);
        gang.climb(1, 9, 0, 4);
        gang.climb(1, 1, 0, 1);
        gang.climb(1, 1, 0, 2);
        gang.climb(9, 1, 0, 5);
        gang.climb(2, 1, 1, 5);
        gang.climb(2, 1, 1, 4);
        gang.back();
        gang.back();
        gang.rope(77);
        gang.rule(9);
        gang.need(5);
        Check.due("restore()", gang.restore(), true);
        Check.due("ropes", gang.count(4), 2);
        Check.missing("the new rope is gone", () -> gang.life(2));
        Check.due("life(0)", gang.life(0), 140);
        Check.due("life(1)", gang.life(1), 49);
        Check.due("up(1, 4)", gang.up(1, 4), 0);
        Check.due("up(0, 0)", gang.up(0, 0), 65);
        int[] went = {2, 1, 0, 0, 1, 0, 0};
        for (int what = 0; what < 7; what++) {
            Check.due("climbs(" + what + ")", gang.climbs(what), went[what]);
        }
        Check.due("the rule", gang.count(7), 6);
        Check.due("needs are not of the image", gang.count(6), 1);
        Check.due("what can be taken back", gang.back(), 6);
        Check.due("what can be taken back", gang.back(), 0);
        Check.due("no more", gang.back(), -1);
        Check.due("all life is back", gang.life(0), 200);
        Check.due("a new rope takes its number", gang.rope(5), 2);
        ChimneyGang ends = Check.told(Check.times("chimney 1;", 12) + "winds" + Check.times(" 0", 30) + ";");
        ends.rope(99);
        for (int rope = 1; rope < 20; rope++) {
            ends.rope(rope);
        }
        for (int chimney = 0; chimney < 5; chimney++) {
            ends.climb(chimney, 2 * chimney, chimney, 29);
        }
        ends.climb(0, 11, 19, 5);
        ends.image();
        ends.back();
        ends.back();
        ends.climb(1, 10, 18, 6);
        ends.climb(3, 7, 3, 28);
        Check.due("restored", ends.restore(), true);
        for (int chimney = 0; chimney < 5; chimney++) {
            Check.due("up the last day", ends.up(2 * chimney, 29), 1 << chimney);
        }
        Check.due("up the last one", ends.up(11, 5), 1);
        Check.due("not up", ends.up(10, 6) | ends.up(7, 28), 0);
        Check.due("life(19)", ends.life(19), 18);
        Check.due("the latest of the image", ends.back(), 0);
        Check.due("its rope", ends.life(19), 19);
        Check.due("its place", ends.up(11, 5), 0);
        Check.due("the one ahead", ends.back(), 4);
        Check.due("its place", ends.up(8, 29), 0);
        ChimneyGang full = climbed(60);
        full.image();
        for (int i = 0; i < 50; i++) {
            full.back();
        }
        Check.due("restored", full.restore(), true);
        Check.due("all went again", full.climbs(0), 60);
        backTo(full, 59, 10);
    }

    private static void rope() {
        Check.says(23, "A ROPE of a LIFE (1 to 9999): its number.");
        ChimneyGang gang = new ChimneyGang();
        Check.due("rope(1)", gang.rope(1), 0);
        Check.due("rope(9999)", gang.rope(9999), 1);
        Check.due("its life", gang.life(0), 1);
        Check.due("its life", gang.life(1), 9999);
    }

    private static void ropeNot() {
        Check.says(23, "NONE: there are 20, not as told.");
        ChimneyGang gang = new ChimneyGang();
        for (int not : new int[] {0, -1, 10000, Integer.MIN_VALUE, Integer.MAX_VALUE}) {
            Check.due("rope(" + not + ")", gang.rope(not), -1);
        }
        Check.due("none of them", gang.count(4), 0);
        for (int rope = 0; rope < 20; rope++) {
            Check.due("rope " + rope, gang.rope(7), rope);
        }
        Check.due("there are 20", gang.rope(7), -1);
        Check.due("and again", gang.rope(1), -1);
        Check.due("count(4)", gang.count(4), 20);
        Check.due("a yard leaves them", Check.yard(gang, "chimney 1;"), 0);
        Check.due("there are 20 still", gang.rope(7), -1);
    }

    private static void life() {
        Check.says(24, "What LIFE a ROPE has left.");
        ChimneyGang gang = yard();
        Check.due("all", gang.life(0), 200);
        gang.climb(0, 1, 0, 0);
        Check.due("50 less", gang.life(0), 150);
        gang.climb(1, 0, 1, 0);
        Check.due("30 less", gang.life(1), 19);
        gang.back();
        Check.due("as much as it had", gang.life(1), 49);
    }

    private static void lifeMissing() {
        Check.says(24, "NoSuchElementException: no such ROPE.");
        ChimneyGang gang = new ChimneyGang();
        Check.missing("life(0) of none", () -> gang.life(0));
        for (int rope = 0; rope < 20; rope++) {
            gang.rope(5);
            int behind = rope + 1;
            Check.missing("life(" + behind + ")", () -> gang.life(behind));
        }
        Check.due("life(19)", gang.life(19), 5);
        for (int not : new int[] {-1, 20, Integer.MIN_VALUE, Integer.MAX_VALUE}) {
            Check.missing("life(" + not + ")", () -> gang.life(not));
        }
    }

    private static void need() {
        Check.says(25, "A need (1 to 9999): how many there are.");
        ChimneyGang gang = new ChimneyGang();
        for (int needs = 1; needs <= 10; needs++) {
            Check.due("need " + needs, gang.need(needs == 3 ? 9999 : 1), needs);
            Check.due("count(6)", gang.count(6), needs);
        }
        Check.due("nine ones and a great one", gang.ropes(9999), 2);
    }

    private static void needNot() {
        Check.says(25, "NONE: there are 10, not as told.");
        ChimneyGang gang = new ChimneyGang();
        for (int not : new int[] {0, -1, 10000, Integer.MIN_VALUE, Integer.MAX_VALUE}) {
            Check.due("need(" + not + ")", gang.need(not), -1);
        }
        Check.due("count(6)", gang.count(6), 0);
        for (int needs = 1; needs <= 10; needs++) {
            Check.due("need " + needs, gang.need(6), needs);
        }
        Check.due("there are 10", gang.need(6), -1);
        Check.due("and again", gang.need(1), -1);
        Check.due("count(6)", gang.count(6), 10);
        Check.due("ten ropes", gang.ropes(11), 10);
        Check.due("the first again", gang.need(1), 1);
    }

    private static void ropes() {
        Check.says(26, "FEWEST ROPES of a LIFE for all needs;");
        ropesAre(0, 1);
        ropesAre(0, 0);
        ropesAre(0, Integer.MIN_VALUE);
        ropesAre(0, Integer.MAX_VALUE);
        ropesAre(1, 1, 1);
        ropesAre(2, 1, 1, 1);
        ropesAre(1, 2, 1, 1);
        ropesAre(1, Integer.MAX_VALUE, 9999, 9999, 9999);
    }

    private static void ropesNever() {
        Check.says(26, "NONE: one is more than that.");
        ropesAre(-1, 10, 1, 11);
        ropesAre(-1, 10, 11, 1);
        ropesAre(1, 11, 11);
        ropesAre(-1, 9998, 9999);
        ropesAre(-1, 0, 1);
        ropesAre(-1, -1, 1);
        ropesAre(-1, Integer.MIN_VALUE, 9999);
    }

    private static void needsGone() {
        Check.says(26, "All needs are gone then.");
        ChimneyGang gang = new ChimneyGang();
        for (int life : new int[] {10, 4}) {
            gang.need(5);
            gang.need(6);
            Check.due("ropes(" + life + ")", gang.ropes(life), life == 10 ? 2 : -1);
            Check.due("count(6)", gang.count(6), 0);
            Check.due("ropes(" + life + ") of none", gang.ropes(life), 0);
            Check.due("the first again", gang.need(1), 1);
            Check.due("one rope for it", gang.ropes(1), 1);
        }
    }

    private static void rule() {
        Check.says(27, "The RULE (0 to 13): true.");
        ChimneyGang gang = new ChimneyGang();
        Check.due("6 at first", gang.count(7), 6);
        for (int wind = 13; wind >= 0; wind--) {
            Check.due("rule(" + wind + ")", gang.rule(wind), true);
            Check.due("count(7)", gang.count(7), wind);
        }
    }

    private static void ruleNot() {
        Check.says(27, "False: not as told.");
        ChimneyGang gang = new ChimneyGang();
        for (int not : new int[] {-1, 14, Integer.MIN_VALUE, Integer.MAX_VALUE}) {
            Check.due("rule(" + not + ")", gang.rule(not), false);
            Check.due("still 6", gang.count(7), 6);
        }
    }

    private static void climb() {
        Check.says(28, "CLIMBING: 0 he is up (the ROPE has so much less LIFE), else what refused it.");
        ChimneyGang gang = yard();
        Check.due("up", gang.climb(0, 1, 0, 0), 0);
        Check.due("life", gang.life(0), 150);
        Check.due("up", gang.climb(9, 1, 0, 0), 0);
        Check.due("life", gang.life(0), 100);
        for (int[] it : new int[][] {{10, 0, 0, 0, 1}, {0, 0, 0, 1, 2}, {0, 1, 0, 2, 3}, {0, 0, 0, 0, 4}, {8, 0, 0, 0, 5},
            {3, 1, 1, 0, 6}}) {
            Check.due("what refused it", gang.climb(it[0], it[1], it[2], it[3]), it[4]);
            Check.due("nobody else is up", gang.up(1, 0) | gang.up(0, 0), 1 | 1 << 9);
            Check.due("no life is lost", gang.life(0) + gang.life(1), 149);
        }
    }

    private static void climbs() {
        Check.says(29, "How often so climbing went (what 0: it went, 1 to 6: it was refused so).");
        ChimneyGang gang = yard();
        int[][] each = {{10, 0, 0, 0}, {0, 0, 0, 1}, {0, 1, 0, 2}, {0, 0, 0, 0}, {8, 1, 0, 0}, {3, 1, 1, 0}};
        gang.climb(0, 0, 0, 0);
        for (int refused = 1; refused <= 6; refused++) {
            for (int times = 0; times < refused; times++) {
                int[] it = each[refused - 1];
                Check.due("refused", gang.climb(it[0], it[1], it[2], it[3]), refused);
            }
        }
        gang.climb(1, 0, 0, 0);
        gang.climb(2, 0, 0, 0);
        Check.due("it went", gang.climbs(0), 3);
        for (int what = 1; what <= 6; what++) {
            Check.due("climbs(" + what + ")", gang.climbs(what), what);
        }
    }

    private static void climbsMissing() {
        Check.says(29, "NoSuchElementException: another what.");
        ChimneyGang gang = yard();
        for (int what : new int[] {-1, 7, Integer.MIN_VALUE, Integer.MAX_VALUE}) {
            Check.missing("climbs(" + what + ")", () -> gang.climbs(what));
        }
    }

    private static void up() {
        Check.says(30, "Who is up a CHIMNEY on a DAY, as bits.");
        ChimneyGang gang = Check.told("chimney 1;chimney 1;winds" + Check.times(" 0", 30) + ";");
        gang.rope(9999);
        for (int man = 0; man < 10; man++) {
            Check.due("up(1, 29)", gang.up(1, 29), (1 << man) - 1);
            gang.climb(man, 1, 0, 29);
        }
        Check.due("all of them", gang.up(1, 29), 1023);
        Check.due("the day ahead", gang.up(1, 28), 0);
        Check.due("the first day", gang.up(1, 0), 0);
        Check.due("the other chimney", gang.up(0, 29), 0);
        gang.climb(4, 0, 0, 0);
        Check.due("the other chimney's first day", gang.up(0, 0), 16);
    }

    private static void upMissing() {
        Check.says(30, "NoSuchElementException: also no such DAY.");
        ChimneyGang gang = yard();
        for (int day : new int[] {-1, 30, Integer.MIN_VALUE, Integer.MAX_VALUE}) {
            Check.missing("up(0, " + day + ")", () -> gang.up(0, day));
            Check.missing("up(1, " + day + ")", () -> gang.up(1, day));
        }
        Check.due("the last day", gang.up(1, 29), 0);
    }

    private static void back() {
        Check.says(31, "The latest climbing that went is taken back: the man; it counts no more among climbs(0).");
        ChimneyGang gang = yard();
        gang.climb(2, 0, 0, 0);
        gang.climb(7, 0, 0, 0);
        gang.climb(3, 1, 0, 0);
        gang.climb(3, 1, 0, 0);
        Check.due("climbs(0)", gang.climbs(0), 3);
        Check.due("back()", gang.back(), 3);
        Check.due("nobody there", gang.up(1, 0), 0);
        Check.due("life is back", gang.life(0), 140);
        Check.due("it counts no more", gang.climbs(0), 2);
        Check.due("what was refused does", gang.climbs(4), 1);
        gang.climb(3, 0, 1, 0);
        Check.due("the other rope", gang.life(1), 19);
        Check.due("back()", gang.back(), 3);
        Check.due("the other rope is back", gang.life(1), 49);
        Check.due("back()", gang.back(), 7);
        Check.due("only the master", gang.up(0, 0), 4);
        Check.due("he may go again", gang.climb(7, 0, 0, 0), 0);
        Check.due("back()", gang.back(), 7);
        Check.due("back()", gang.back(), 2);
        Check.due("all life", gang.life(0), 200);
        Check.due("none went", gang.climbs(0), 0);
        Check.due("an empty day", gang.up(0, 0), 0);
        ChimneyGang ends = Check.told(Check.times("chimney 200;", 12) + "winds" + Check.times(" 0", 30) + ";");
        for (int rope = 0; rope < 20; rope++) {
            ends.rope(400);
        }
        ends.climb(0, 11, 19, 29);
        ends.climb(9, 11, 19, 29);
        Check.due("the last of all", ends.back(), 9);
        Check.due("with its rope", ends.life(19), 200);
        Check.due("and its place", ends.up(11, 29), 1);
    }

    private static void backNone() {
        Check.says(31, "NONE: there is none.");
        ChimneyGang gang = yard();
        Check.due("at first", gang.back(), -1);
        gang.climb(9, 0, 0, 0);
        Check.due("none that went", gang.back(), -1);
        gang.climb(0, 0, 0, 0);
        gang.back();
        Check.due("no second time", gang.back(), -1);
        Check.due("climbs(0) isn't below 0", gang.climbs(0), 0);
        gang.climb(0, 0, 0, 0);
        Check.yard(gang, "chimney 30;winds 0;");
        Check.due("none of the yard ahead", gang.back(), -1);
        Check.due("whose rope stays worn", gang.life(0), 170);
        Check.due("of a new object", new ChimneyGang().back(), -1);
    }

    private static void image() {
        Check.says(32, "AN IMAGE is kept, in place of another one.");
        ChimneyGang gang = yard();
        gang.image();
        gang.climb(0, 0, 0, 0);
        gang.image();
        gang.climb(1, 0, 0, 0);
        Check.due("restore()", gang.restore(), true);
        Check.due("as in the later one", gang.up(0, 0), 1);
        gang.back();
        gang.image();
        gang.climb(4, 0, 0, 0);
        Check.due("restore()", gang.restore(), true);
        Check.due("nobody in it", gang.up(0, 0), 0);
        Check.due("nothing to take back in it", gang.back(), -1);
    }

    private static void restore() {
        Check.says(33, "It is as the IMAGE again: true.");
        ChimneyGang gang = yard();
        gang.climb(0, 0, 0, 0);
        gang.image();
        for (int times = 0; times < 3; times++) {
            gang.climb(1, 0, 0, 0);
            gang.climb(1, 0, 0, 0);
            gang.rule(times);
            gang.rope(9);
            Check.due("restore()", gang.restore(), true);
            Check.due("who is up", gang.up(0, 0), 1);
            Check.due("life", gang.life(0), 170);
            Check.due("ropes", gang.count(4), 2);
            Check.due("the rule", gang.count(7), 6);
            Check.due("how climbing went", gang.climbs(4), 0);
        }
        Check.due("what can be taken back", gang.back(), 0);
        Check.due("the image isn't changed by that", gang.restore(), true);
        Check.due("he is up in it", gang.up(0, 0), 1);
        ChimneyGang empty = new ChimneyGang();
        empty.image();
        empty.rope(5);
        Check.due("of a new object", empty.restore(), true);
        Check.due("without ropes", empty.count(4), 0);
    }

    private static void restoreNot() {
        Check.says(33, "False: there is none (a YARD told since has none).");
        ChimneyGang gang = yard();
        gang.climb(0, 0, 0, 0);
        Check.due("no image", gang.restore(), false);
        Check.due("nothing changes", gang.up(0, 0), 1);
        Check.due("nothing changes", gang.count(4), 2);
        gang.image();
        Check.due("a faulty yard", Check.yard(gang, ";"), 1);
        Check.due("leaves it", gang.restore(), true);
        Check.due("a yard", Check.yard(gang, "chimney 30;"), 0);
        Check.due("takes it away", gang.restore(), false);
        Check.due("who is up", gang.up(0, 0), 0);
        Check.due("life stays", gang.life(0), 170);
        gang.image();
        Check.due("the new yard's", gang.restore(), true);
    }
}
