/** Promises 1 to 8: a new object, the tape, the yard's language and its faults, what a yard tells. */
public final class YardTest {
    private static final String THREE = "chimney 30; chimney 50; chimney 200;";

    private YardTest() {
    }

    public static void main(String[] args) {
        newObject();
        tape();
        faultsOfTokens();
        faultsOfNumbers();
        tooMany();
        chimneysNotTold();
        whatAYardTakesAlong();
        winds();
        letters();
        roads();
        begins();
        Check.end();
    }

    /** Promise 1. */
    private static void newObject() {
        ChimneyGang gang = new ChimneyGang();
        int[] at = {0, 0, 0, 0, 0, 0, 0, 6};
        for (int what = 0; what < 8; what++) {
            Check.due("new: count(" + what + ")", gang.count(what), at[what]);
        }
        Check.due("new: fault()", gang.fault(), -1);
        Check.due("new: order(1)", gang.order(1), -1);
        Check.due("new: out(200, 99)", gang.out(200, 99), 0);
        Check.due("new: even(2)", gang.even(2), -1);
        Check.due("new: odds(0)", gang.odds(0), -1);
        Check.due("new: restore()", gang.restore(), false);
        Check.missing("new: road(0, 0)", () -> gang.road(0, 0));
        Check.due("NONE", ChimneyGang.NONE, -1);
    }

    /** Promises 2, 3 and 5: thirty times twenty bytes, and no more; a yard takes them all away. */
    private static void tape() {
        ChimneyGang gang = new ChimneyGang();
        for (int times = 1; times <= 30; times++) {
            Check.due("feed number " + times, gang.feed(0x20202020, 0x0a0a0a0a, 0x20202020, 0x20202020, 0x20202020),
                20 * times);
        }
        Check.due("feed of 620", gang.feed(1, 2, 3, 4, 5), -1);
        Check.due("count(5)", gang.count(5), 600);
        Check.refused("yard(601)", () -> gang.yard(601));
        Check.refused("yard(-1)", () -> gang.yard(-1));
        Check.due("count(5) behind what was refused", gang.count(5), 600);
        Check.due("yard(600) of blanks", gang.yard(600), 0);
        Check.due("count(5) behind a yard", gang.count(5), 0);
        Check.due("yard(0)", gang.yard(0), 0);
        Check.refused("yard(1) of an empty tape", () -> gang.yard(1));
        Check.due("fed in order", Check.feed(gang, "chimney 7; road 0 0"), 20);
        Check.due("its first 10 bytes", gang.yard(10), 0);
        Check.due("one chimney", gang.count(0), 1);
        Check.feed(gang, "chimney 7; road 0 0");
        Check.due("a fault empties the tape too", gang.yard(19), 5);
        Check.due("so it is empty", gang.count(5), 0);
        Check.due("bytes above 127", gang.feed(-1, -1, -1, -1, -1), 20);
        Check.due("are no tokens", gang.yard(1), 1);
        Check.missing("count(8)", () -> gang.count(8));
        Check.missing("count(-1)", () -> gang.count(-1));
    }

    private static void fault(String text, int fault, int place) {
        ChimneyGang gang = new ChimneyGang();
        Check.due("yard of " + text, Check.yard(gang, text), fault);
        Check.due("fault() of " + text, gang.fault(), place);
        Check.due("chimneys of " + text, gang.count(0) > 0 && fault != 0 ? 1 : 0, 0);
    }

    /** Promises 3 and 4: fault 1, with its place. */
    private static void faultsOfTokens() {
        fault("", 0, -1);
        fault(" \n ", 0, -1);
        fault("chimney", 1, 7);
        fault("chimney  ", 1, 9);
        fault("chimney 5", 1, 9);
        fault("chimney 5;", 0, -1);
        fault("chimney5;chimney 6 ;", 0, -1);
        fault("\nchimney\n5\n;\n", 0, -1);
        fault("chimneys 5;", 1, 0);
        fault("chimne 5;", 1, 0);
        fault("xhimney 5;", 1, 0);
        fault("chimnez 5;", 1, 0);
        fault("chimneyz 5;", 1, 0);
        fault("chimney 5;azby 5;", 1, 10);
        fault("{chimney 5;", 1, 0);
        fault("`chimney 5;", 1, 0);
        fault("chimney /5;", 1, 8);
        fault("chimney :5;", 1, 8);
        fault("chimney 5:", 1, 9);
        fault("chimney\r5;", 1, 7);
        fault(" Chimney 5;", 1, 1);
        fault("chimney\t5;", 1, 7);
        fault("chimney;", 1, 7);
        fault("chimney five;", 1, 8);
        fault("chimney 5 6;", 1, 10);
        fault("chimney 5;;", 1, 10);
        fault("5;", 1, 0);
        fault("12345;", 1, 0);
        fault("chimney 5 123456;", 1, 10);
        fault("chimney 5.", 1, 9);
        fault("winds;", 1, 5);
        fault("winds 1", 1, 7);
        fault("winds 1 a;", 1, 8);
        fault("winds 1, 2;", 1, 7);
        fault(THREE + "road 0 1 move 2;", 1, 45);
        fault(THREE + "road 0 1 moves;", 1, 50);
        fault(THREE + "nest 0 from 1;", 1, 49);
        fault(THREE + "nest 0 till 1;", 1, 43);
        fault(THREE + "letter 0 days 1 wind 1 from 1 till 1;", 1, 72);
        fault(THREE + "letter 0 day 1 wind 1 from 1 till 1 price 1;", 1, 45);
        fault(THREE + "letter 0 days 1 from 1 till 1 price 1;", 1, 52);
        fault("days 1;", 1, 0);
    }

    /** Promise 3: faults 2 and 4, and the ends of what may be told. */
    private static void faultsOfNumbers() {
        fault("chimney 0;", 2, 8);
        fault("chimney 0001;", 0, -1);
        fault("chimney 200;", 0, -1);
        fault("chimney 201;", 2, 8);
        fault("chimney 00001;", 2, 8);
        fault("chimney 99999999999999999999;", 2, 8);
        fault("winds 0 12;", 0, -1);
        fault("winds 0 13;", 2, 8);
        fault("winds 00000;", 2, 6);
        fault(THREE + "road 0 1 moves 9;", 0, -1);
        fault(THREE + "road 0 1 moves 10;", 2, 51);
        fault(THREE + "letter 0 days 9 wind 12 from 0 till 29 price 9999;", 0, -1);
        fault(THREE + "letter 0 days 0 wind 12 from 0 till 29 price 9999;", 2, 50);
        fault(THREE + "letter 0 days 10 wind 12 from 0 till 29 price 9999;", 2, 50);
        fault(THREE + "letter 0 days 9 wind 13 from 0 till 29 price 9999;", 2, 57);
        fault(THREE + "letter 0 days 9 wind 12 from 30 till 29 price 9999;", 2, 65);
        fault(THREE + "letter 0 days 9 wind 12 from 0 till 30 price 9999;", 2, 72);
        fault(THREE + "letter 0 days 9 wind 12 from 0 till 29 price 10000;", 2, 81);
        fault(THREE + "letter 0 days 9 wind 12 from 7 till 7 price 0;", 0, -1);
        fault(THREE + "letter 0 days 9 wind 12 from 7 till 6 price 0;", 4, 72);
        fault(THREE + "nest 0 from 3 till 3;", 0, -1);
        fault(THREE + "nest 0 from 3 till 2;", 4, 55);
        fault(THREE + "nest 0 from 3 till 30;", 2, 55);
        fault(THREE + "nest 0 from 3 till 00002;", 2, 55);
    }

    /** Promise 3: faults 3 and 5, and which of them comes first. */
    private static void chimneysNotTold() {
        fault("road 0 0 moves 1;", 3, 5);
        fault(THREE + "road 3 0 moves 1;", 3, 41);
        fault(THREE + "road 0 3 moves 1;", 3, 43);
        fault(THREE + "road 0 9999 moves 1;", 3, 43);
        fault(THREE + "road 0 10000 moves 1;", 2, 43);
        fault(THREE + "road 2 2 moves 1;", 5, 43);
        fault(THREE + "road 2 2 moves 10", 5, 43);
        fault("nest 0 from 1 till 1;" + THREE, 3, 5);
        fault("chimney 4;letter 1 days 1 wind 1 from 1 till 1 price 1;chimney 5;", 3, 17);
        fault("chimney 4;letter 99999 days", 2, 17);
    }

    private static String times(String text, int times) {
        StringBuilder all = new StringBuilder();
        for (int i = 0; i < times; i++) {
            all.append(text);
        }
        return all.toString();
    }

    /** Promise 3: the 13th chimney, the 9th letter, the 13th nest, the 31st wind. */
    private static void tooMany() {
        fault(times("chimney 1;", 12), 0, -1);
        fault(times("chimney 1;", 13), 2, 120);
        fault(times("chimney 1;", 12) + "chimney", 2, 120);
        String letter = "letter 0 days 1 wind 1 from 1 till 1 price 1;";
        fault("chimney 1;" + times(letter, 8), 0, -1);
        fault("chimney 1;" + times(letter, 8) + "letter 9", 2, 10 + 8 * letter.length());
        String nest = "nest 0 from 1 till 1;";
        fault("chimney 1;" + times(nest, 12), 0, -1);
        fault("chimney 1;" + times(nest, 12) + " nest", 2, 11 + 12 * nest.length());
        fault("winds" + times(" 1", 30) + ";", 0, -1);
        fault("winds" + times(" 1", 31) + ";", 2, 66);
        fault("winds" + times(" 1", 30) + ";winds 99", 2, 72);
        fault("winds" + times(" 1", 30) + ";winds ;", 1, 72);
        fault("winds" + times(" 1", 30) + " x;", 1, 66);
        fault("winds 1;" + "winds" + times(" 1", 30) + ";", 2, 72);
    }

    /** Promise 3: a fault changes nothing else; a yard takes away what is of its chimneys and leaves the rest. */
    private static void whatAYardTakesAlong() {
        ChimneyGang gang = Check.told("chimney 10; winds 0 0 0;letter 0 days 1 wind 1 from 0 till 2 price 5;");
        gang.plan();
        gang.even(2);
        gang.plumb(0, 1, 1);
        gang.plumb(0, 2, 2);
        gang.doubt(0, 3);
        gang.band(0, 1, 2, 3, 4);
        gang.mortar(0, 99);
        gang.risk(0, 7, 8);
        gang.order(1);
        gang.rope(100);
        gang.rule(9);
        gang.climb(0, 0, 0, 0);
        gang.climb(10, 0, 0, 0);
        gang.image();
        gang.wall(3);
        gang.need(4);
        gang.means(1, 50);
        gang.part(0, 1, 10);
        gang.bill(0, 20);
        gang.storm(0, 100);
        Check.due("a faulty yard", Check.yard(gang, "chimney 20; winds 1; oh"), 1);
        Check.due("fault()", gang.fault(), 21);
        Check.due("still 3 days", gang.count(2), 3);
        Check.due("still the plan", gang.planned(0, 0), 0);
        Check.due("still its gangs", gang.gang(0), 0);
        Check.due("still the lean", gang.lean(0, 1, 1), 4);
        Check.due("still the band", gang.band(0, 1, 2, 3, 4), 2);
        Check.due("still the order", gang.ordered(0), 0);
        Check.due("still up", gang.up(0, 0), 1);
        Check.due("still the image", gang.restore(), true);
        Check.due("a yard", Check.yard(gang, "chimney 20; winds 0; letter 0 days 1 wind 1 from 0 till 2 price 5;"), 0);
        Check.due("fault() without", gang.fault(), -1);
        Check.missing("no plan", () -> gang.planned(-1, 0));
        Check.missing("no gangs", () -> gang.gang(0));
        Check.due("no readings", gang.limit(0, -9999, 0), -1);
        gang.plumb(0, 0, 0);
        gang.plumb(0, 1, 0);
        Check.due("no doubt", gang.lean(0, 9, 1), 0);
        Check.due("no bands, no mortar", gang.weak(0, 9, 13, 0), 19);
        Check.due("no bands", gang.band(0, 1, 2, 3, 4), 1);
        Check.missing("no order", () -> gang.ordered(0));
        Check.due("no risk", gang.order(1), 0);
        gang.risk(0, 1, 1);
        Check.due("work as at first", gang.order(1), 1);
        Check.due("nobody up", gang.up(0, 0), 0);
        Check.due("nobody went", gang.climbs(0), 0);
        Check.due("nobody refused", gang.climbs(1), 0);
        Check.due("nothing to take back", gang.back(), -1);
        Check.due("no image", gang.restore(), false);
        Check.due("ropes stay", gang.life(0), 90);
        Check.due("the rule stays", gang.count(7), 9);
        Check.due("the trial stays", gang.sure(2), 8);
        Check.due("needs stay", gang.count(6), 1);
        Check.due("what was paid stays", gang.paid(1, 0), 20);
        Check.due("means stay", gang.paid(1, 1), 30);
        Check.due("parts are gone", gang.bill(0, 7), 7);
        gang.plan();
        Check.due("storms stay", gang.odds(0), 0);
    }

    /** Promise 5: days go on from clause to clause; those that aren't told have more wind than any letter. */
    private static void winds() {
        ChimneyGang gang = Check.told("chimney 5; winds 12 3; chimney 6; winds 4; letter 1 days 1 wind 12 from 0 till 29"
            + " price 1; letter 0 days 2 wind 4 from 0 till 29 price 1; nest 1 from 9 till 9;");
        Check.due("chimneys", gang.count(0), 2);
        Check.due("letters", gang.count(1), 2);
        Check.due("days", gang.count(2), 3);
        Check.due("nests", gang.count(3), 1);
        Check.due("a day of wind 12", gang.begins(0, 0), 0);
        Check.due("days of wind 3 and 4", gang.begins(1, 0), 1);
        Check.due("a day that isn't told", gang.begins(0, 3), -1);
    }

    /** Promise 6. */
    private static void letters() {
        ChimneyGang gang = Check.told(THREE + "letter 2 days 3 wind 4 from 5 till 26 price 0789;");
        int[] due = {2, 3, 4, 5, 26, 789};
        for (int what = 0; what < 6; what++) {
            int asked = what;
            Check.due("letter(0, " + what + ")", gang.letter(0, asked), due[what]);
        }
        Check.missing("letter(0, 6)", () -> gang.letter(0, 6));
        Check.missing("letter(0, -1)", () -> gang.letter(0, -1));
        Check.missing("letter(1, 0)", () -> gang.letter(1, 0));
        Check.missing("letter(-1, 0)", () -> gang.letter(-1, 0));
    }

    /** Promise 7. */
    private static void roads() {
        ChimneyGang gang = Check.told(THREE + "road 0 1 moves 5; road 1 2 moves 0; road 1 0 moves 7;");
        Check.due("the last road, told the other way", gang.road(0, 1), 7);
        Check.due("and back", gang.road(1, 0), 7);
        Check.due("a road of no days", gang.road(2, 1), 0);
        Check.due("without a road", gang.road(0, 2), 1);
        Check.due("within one", gang.road(1, 1), 0);
        Check.missing("road(0, 3)", () -> gang.road(0, 3));
        Check.missing("road(3, 0)", () -> gang.road(3, 0));
        Check.missing("road(-1, 0)", () -> gang.road(-1, 0));
        Check.missing("road(0, -1)", () -> gang.road(0, -1));
        Check.yard(gang, "chimney 1; chimney 1;");
        Check.due("no roads in a new yard", gang.road(0, 1), 1);
    }

    /** Promise 8. */
    private static void begins() {
        ChimneyGang gang = Check.told("chimney 5; chimney 5; winds 3 3 3 9 3 3 3 3 3 3 3 3; nest 0 from 6 till 7;"
            + "letter 0 days 2 wind 3 from 1 till 9 price 1; letter 1 days 3 wind 3 from 5 till 9 price 1;");
        Check.due("not ahead of from", gang.begins(0, 0), 1);
        Check.due("on the day", gang.begins(0, 1), 1);
        Check.due("behind the wind", gang.begins(0, 2), 4);
        Check.due("behind the nest", gang.begins(0, 5), 8);
        Check.due("till counts", gang.begins(0, 8), 8);
        Check.due("behind till", gang.begins(0, 9), -1);
        Check.due("the nest is of the other chimney", gang.begins(1, 0), 5);
        Check.due("the last three days", gang.begins(1, 7), 7);
        Check.due("one too late", gang.begins(1, 8), -1);
        Check.due("very late", gang.begins(1, Integer.MAX_VALUE), -1);
        Check.refused("begins(0, -1)", () -> gang.begins(0, -1));
        Check.missing("begins(2, 0)", () -> gang.begins(2, 0));
        Check.missing("begins(2, -1): the letter ahead of the day", () -> gang.begins(2, -1));
    }
}
