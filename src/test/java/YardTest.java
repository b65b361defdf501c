/** Promises 1 to 8: a new object, the tape, what a yard takes along and leaves, what it tells. */
public final class YardTest {
    private static final String TWELVE = Check.times("chimney 9;", 12);
    /** What asks and changes nothing, of an object that is busy(). */
    private static final String[] LOOK = {"count 0", "count 1", "count 2", "count 3", "count 4", "count 6", "count 7",
        "letter 0 0", "letter 0 1", "letter 0 2", "letter 0 3", "letter 0 4", "letter 0 5", "letter 1 5", "letter 2 0",
        "road 0 1", "road 0 11", "road 11 1", "begins 0 0", "begins 1 1", "planned -1 0", "planned -1 1", "planned 0 0",
        "planned 0 1", "planned 1 0", "planned 1 1", "gang 0", "gang 1", "gang 2", "odds 0", "odds 1", "odds 41",
        "lean 0 9 0", "lean 0 9 1", "limit 0 9 0", "limit 0 9 1", "sure 0", "sure 1", "sure 2", "next 0", "next 1",
        "next 2", "life 0", "life 1", "life 2", "climbs 0", "climbs 1", "climbs 2", "climbs 3", "climbs 4", "climbs 5",
        "climbs 6", "up 0 0", "up 11 1", "weak 0 9 5 0", "weak 0 9 5 1", "weak 0 9 5 2", "weak 11 9 5 2", "lasts 0 9 5",
        "bands 0 9 5 7", "ordered 0", "ordered 1", "ordered 2", "ladders 0 3", "out 9 5", "paid 0 0", "paid 0 1",
        "paid 5 0", "paid 5 1"};
    /** What changes something, and what is to be seen of it. */
    private static final String[] DO = {"even 3", "gang 0", "gang 1", "order 2051", "ordered 0", "bill 11 7", "paid 5 0",
        "ropes 9", "plumb 0 3 3", "lean 0 9 0", "band 0 3 3 3 3", "weak 0 9 5 2", "tell 0 1 1", "sure 0", "next 0", "back",
        "life 0", "up 11 1", "back", "back", "climbs 0", "climb 0 0 0 0", "climb 0 0 0 0", "climbs 4", "restore",
        "life 0", "life 1", "climbs 0", "count 7", "up 11 1", "back", "plan", "odds 0"};

    private static final String[] YARDS = {
        "chimney 30;chimney 50;chimney 4;winds 1 2;road 0 1 moves 5;nest 0 from 1 till 9;"
            + "letter 0 days 1 wind 5 from 0 till 29 price 1;letter 1 days 1 wind 5 from 0 till 29 price 1;",
        "chimney 3;chimney 200;winds 0 0 0 0 0 0 0 0 0 0 0 0;letter 0 days 2 wind 5 from 4 till 29 price 0;",
        "chimney 5;x",
        "chimney 8;chimney 9;winds 6 6 6 6 6 6;letter 0 days 1 wind 5 from 0 till 29 price 1;nest 1 from 5 till 6;winds 13;"};
    /** What is of a yard alone. */
    private static final String[] USE = {"count 0", "count 1", "count 2", "count 3", "road 0 1", "road 0 2", "letter 0 1",
        "letter 1 0", "begins 0 0", "begins 0 2", "begins 0 8", "begins 1 0", "planned -1 0", "gang 0", "plan", "planned -1 0",
        "planned -1 1", "planned 0 0", "planned 0 1", "gang 0", "even 2", "gang 0", "gang 1", "out 200 3", "out 2 60",
        "out 60 3", "order 3", "ordered 1", "risk 0 5 6", "risk 1 7 8", "order 3", "ordered 0", "doubt 0 2", "plumb 0 0 7",
        "plumb 0 1 8", "limit 0 0 0", "plumb 0 300 300", "plumb 0 299 300", "plumb 1 300 9", "lean 0 7 1", "mortar 0 3",
        "band 0 0 5 9 1", "band 0 2 5 9 1", "band 0 2 5 9 1", "weak 0 6 9 2", "bands 0 6 9 7", "lasts 1 0 1", "climb 0 0 0 0"};

    private YardTest() {
    }

    public static void main(String[] args) {
        sentences();
        Check.end();
    }

    static void sentences() {
        newObject();
        none();
        manyCalls();
        bytesInOrder();
        tapeFull();
        firstBytes();
        yardBehindYard();
        faultLeavesAll();
        goneWithAYard();
        asAtFirst();
        staysInAYard();
        refusedYards();
        placeOfFault();
        counts();
        noSuchCount();
        letters();
        noSuchLetter();
        roads();
        noSuchRoad();
        begins();
        beginsNever();
        beginsRefused();
    }

    private static void newObject() {
        Check.says(1, "An empty YARD.");
        ChimneyGang gang = new ChimneyGang();
        int[] at = {0, 0, 0, 0, 0, 0, 0, 6};
        for (int what = 0; what < 8; what++) {
            Check.due("new: count(" + what + ")", gang.count(what), at[what]);
        }
        Check.due("new: fault()", gang.fault(), -1);
        Check.due("new: order(1)", gang.order(1), -1);
        Check.due("new: even(2)", gang.even(2), -1);
        Check.due("new: odds(0)", gang.odds(0), -1);
        Check.due("new: restore()", gang.restore(), false);
        Check.due("new: back()", gang.back(), -1);
        ChimneyGang told = Check.told("");
        Check.alike(gang, told, LOOK);
        Check.alike(gang, told, DO);
    }

    private static void none() {
        Check.says(0, "The constants: `NONE = -1`: There is none.");
        Check.due("NONE", ChimneyGang.NONE, -1);
    }

    private static void manyCalls() {
        Check.says(0, "An object is used for at most 512 calls after it has been made");
        ChimneyGang gang = new ChimneyGang();
        for (int call = 1; call < 512; call++) {
            gang.climb(0, 0, 0, 0);
        }
        Check.due("the 512th call", gang.climbs(1), 511);
        ChimneyGang other = Check.told(TWELVE + "winds 0;");
        other.rope(9999);
        for (int call = 35; call < 512; call += 2) {
            Check.due("up once more", other.climb(0, 0, 0, 0), 0);
            Check.due("back once more", other.back(), 0);
        }
    }

    private static void bytesInOrder() {
        Check.says(2, "Twenty bytes come behind the tape, of each number the highest first: how many it has;");
        ChimneyGang gang = new ChimneyGang();
        Check.due("the first twenty", gang.feed(0x6368696d, 0x6e657920, 0x373b2020, 0x2020200a, 0x63686921), 20);
        Check.due("the second twenty", gang.feed(0x20202020, 0x20202020, 0x20202020, 0x20202020, 0x20202020), 40);
        Check.due("chi! is no chimney", gang.yard(40), 1);
        Check.due("the place of chi", gang.fault(), 16);
        for (int at = 0; at < 20; at++) {
            int[] numbers = {0x20202020, 0x20202020, 0x20202020, 0x20202020, 0x20202020};
            numbers[at / 4] ^= 0x80 << 8 * (3 - at % 4);
            gang.feed(0x0a0a0a0a, 0x20202020, 0x0a0a0a0a, 0x20202020, 0x0a0a0a0a);
            Check.due("forty again", gang.feed(numbers[0], numbers[1], numbers[2], numbers[3], numbers[4]), 40);
            Check.due("a blank and 128 is no blank", gang.yard(40), 1);
            Check.due("where it is", gang.fault(), 20 + at);
        }
        gang.feed(-1, -1, -1, -1, -1);
        Check.due("bytes of 255", gang.yard(20), 1);
        Check.due("come first", gang.fault(), 0);
    }

    private static void tapeFull() {
        Check.says(2, "NONE, and none come, if it would have more than 600.");
        ChimneyGang gang = new ChimneyGang();
        for (int times = 1; times <= 30; times++) {
            Check.due("feed number " + times, gang.feed(0x20202020, 0x0a0a0a0a, 0x20202020, 0x20202020, 0x20202020),
                20 * times);
        }
        Check.due("feed of 620", gang.feed(1, 2, 3, 4, 5), -1);
        Check.due("and again", gang.feed(0, 0, 0, 0, 0), -1);
        Check.due("count(5)", gang.count(5), 600);
        Check.due("all are blanks still", gang.yard(600), 0);
        Check.due("feed behind that", gang.feed(0x20202020, 0x20202020, 0x20202020, 0x20202020, 0x20202078), 20);
        Check.due("the twenty that came", gang.yard(20), 1);
        Check.due("the last of them", gang.fault(), 19);
    }

    private static void firstBytes() {
        Check.says(3, "The tape's first n bytes (it is empty then) tell a YARD: 0,");
        ChimneyGang gang = new ChimneyGang();
        Check.feed(gang, "chimney 7;chimney 8; road 0 0");
        Check.due("its first 10 bytes", gang.yard(10), 0);
        Check.due("one chimney", gang.count(0), 1);
        Check.due("an empty tape", gang.count(5), 0);
        Check.feed(gang, "winds 1;");
        Check.due("nothing is left of the tape ahead", gang.yard(8), 0);
        Check.due("no chimney", gang.count(0), 0);
        Check.due("one day", gang.count(2), 1);
        Check.feed(gang, "chimney 7;x");
        Check.due("no bytes of it", gang.yard(0), 0);
        Check.due("tell an empty yard", gang.count(2), 0);
        Check.due("and empty it", gang.count(5), 0);
        Check.due("no bytes of none", gang.yard(0), 0);
        Check.feed(gang, "chimney 7; road 0 0");
        Check.due("all of them", gang.yard(20), 5);
        Check.due("a fault empties the tape too", gang.count(5), 0);
    }

    /** Each yard as if it were the first, whatever was told, asked and found faulty ahead of it. */
    private static void yardBehindYard() {
        Check.says(3, "The tape's first n bytes (it is empty then) tell a YARD: 0,");
        for (int row = 0; row < YARDS.length * YARDS.length * YARDS.length; row++) {
            ChimneyGang gang = new ChimneyGang();
            for (int left = row, many = 0; many < 3; many++, left /= YARDS.length) {
                Check.yard(gang, YARDS[left % YARDS.length]);
                for (String call : USE) {
                    Check.answer(gang, call);
                }
            }
            for (String text : YARDS) {
                ChimneyGang first = new ChimneyGang();
                if (Check.yard(first, text) == 0) {
                    Check.due("a yard behind others", Check.yard(gang, text), 0);
                    Check.alike(gang, first, USE);
                }
            }
        }
    }

    /** An object with something of each kind in it. */
    private static ChimneyGang busy() {
        ChimneyGang gang = Check.told(TWELVE + "winds 0 0 0 9;letter 0 days 1 wind 1 from 0 till 2 price 5;"
            + "letter 11 days 2 wind 1 from 0 till 3 price 6;road 0 11 moves 0;nest 11 from 3 till 3;");
        for (String call : new String[] {"plan", "even 2", "storm 0 40", "storm 2 3", "doubt 0 3", "plumb 0 1 1",
            "plumb 0 2 2", "band 0 1 2 3 4", "mortar 0 9", "mortar 11 8", "risk 0 7 8", "risk 11 3 4", "order 2049",
            "rope 100", "rope 8", "rule 8", "climb 0 0 0 0", "climb 6 0 0 0", "climb 1 11 0 1", "climb 10 0 0 0",
            "climb 0 0 0 3", "climb 0 0 0 0", "climb 7 0 0 1", "climb 2 0 1 1", "image", "climb 2 11 0 1", "rule 9",
            "climb 3 11 0 3", "wall 3", "tell 2 0 1", "need 4", "need 7", "means 0 50", "means 5 60", "part 11 5 10",
            "part 11 0 20", "bill 11 33"}) {
            String answer = Check.answer(gang, call);
            Check.due(call + " is taken", answer.equals("false") || answer.startsWith("throws") ? 0 : 1, 1);
        }
        return gang;
    }

    private static void faultLeavesAll() {
        Check.says(3, "or the FAULT (all else stays).");
        for (String faulty : new String[] {"x", TWELVE + "chimney", TWELVE + "winds 1 2 3 4 5;" + "road 0 0",
            "chimney 20;winds 1;letter 0 days 1 wind 1 from 3 till 4 price 5;nest 0 from 3 till 2;"}) {
            ChimneyGang gang = busy();
            Check.due("a fault", Check.yard(gang, faulty) > 0, true);
            ChimneyGang twin = busy();
            Check.alike(gang, twin, LOOK);
            Check.alike(gang, twin, DO);
        }
    }

    private static void goneWithAYard() {
        Check.says(3, "READINGS, BANDS, the PLAN, the ORDER, climbing, what refused it and the IMAGE are gone then,");
        for (String text : new String[] {TWELVE + "winds 0;letter 0 days 1 wind 1 from 0 till 2 price 5;", TWELVE}) {
            ChimneyGang gang = busy();
            Check.due("a yard", Check.yard(gang, text), 0);
            Check.refused("no readings", () -> gang.lean(0, 9, 0));
            for (int many = 1; many <= 10; many++) {
                Check.due("reading " + many, gang.plumb(0, many, 0), true);
            }
            Check.due("reading 11", gang.plumb(0, 11, 0), false);
            Check.due("no bands", gang.weak(0, 2, 3, 2), 24);
            Check.due("the first band", gang.band(0, 1, 2, 3, 4), 1);
            Check.missing("no plan", () -> gang.planned(-1, 0));
            Check.missing("no gangs", () -> gang.gang(0));
            Check.due("no plan to lay even", gang.even(2), -1);
            Check.due("no plan with odds", gang.odds(0), -1);
            Check.missing("no order", () -> gang.ordered(0));
            for (int chimney = 0; chimney < 12; chimney++) {
                for (int day = 0; day < 4; day++) {
                    Check.due("nobody up", gang.up(chimney, day), 0);
                }
            }
            for (int what = 0; what < 7; what++) {
                Check.due("climbs(" + what + ")", gang.climbs(what), 0);
            }
            Check.due("nothing to take back", gang.back(), -1);
            Check.due("no image", gang.restore(), false);
        }
        ChimneyGang bare = busy();
        Check.due("no bytes", bare.yard(0), 0);
        Check.due("no image of no bytes", bare.restore(), false);
        Check.missing("no plan of no bytes", () -> bare.planned(-1, 0));
    }

    private static void setAll(ChimneyGang gang) {
        for (int chimney = 0; chimney < 12; chimney++) {
            gang.doubt(chimney, 9);
            gang.mortar(chimney, 99);
            gang.risk(chimney, 9, 9);
            gang.part(chimney, chimney % 6, 50);
            gang.means(chimney % 6, 900);
        }
    }

    private static void asAtFirst() {
        Check.says(3, "DOUBTS, MORTAR, RISKS, WORK, PARTS as at first;");
        ChimneyGang gang = busy();
        setAll(gang);
        Check.due("a yard", Check.yard(gang, TWELVE), 0);
        for (int chimney = 0; chimney < 12; chimney++) {
            gang.plumb(chimney, 0, 0);
            gang.plumb(chimney, 1, 0);
            Check.due("no doubt", gang.lean(chimney, 9, 1), 0);
            Check.due("no mortar", gang.weak(chimney, 9, 1, 2), 8);
            Check.due("no risk", gang.order(1 << chimney), 0);
            Check.due("no parts", gang.bill(chimney, 5), 5);
        }
        workAsAtFirst(0, 1);
        workAsAtFirst(10, 11);
    }

    /** The way from one to the other is far, and short over a third one, if that one's work is short. */
    private static void workAsAtFirst(int one, int other) {
        StringBuilder text = new StringBuilder(TWELVE + "road " + one + " " + other + " moves 9;");
        for (int third = 0; third < 12; third++) {
            if (third != one && third != other) {
                text.append("road " + one + " " + third + " moves 0;road " + other + " " + third + " moves 0;");
            }
        }
        ChimneyGang gang = Check.told(TWELVE);
        setAll(gang);
        Check.due("a yard", Check.yard(gang, text.toString()), 0);
        gang.risk(one, 1, 1);
        gang.risk(other, 1, 1);
        for (int third = 0; third < 12; third++) {
            if (third != one && third != other) {
                Check.due("work of one day", gang.order(1 << one | 1 << other | 1 << third), 1 + 3);
                gang.risk(third, 0, 9);
                Check.due("work of nine days", gang.order(1 << one | 1 << other | 1 << third), 1 + 11);
            }
        }
    }

    private static void staysInAYard() {
        Check.says(3, "ROPES, TRIALS, needs, the RULE, MEANS, STORMS, what was paid of the latest BILL stay.");
        ChimneyGang gang = busy();
        ChimneyGang twin = busy();
        Check.due("a yard", Check.yard(gang, TWELVE + "winds 0 0 0;letter 0 days 1 wind 1 from 0 till 2 price 5;"), 0);
        Check.alike(gang, twin, "count 4", "life 0", "life 1", "life 2", "sure 0", "sure 1", "sure 2", "next 0", "next 2",
            "count 6", "count 7", "paid 0 0", "paid 0 1", "paid 5 0", "paid 5 1", "ropes 9", "tell 0 0 0", "rope 5");
        Check.due("rope 0 is worn", gang.life(0), 64);
        Check.due("rope 1 isn't", gang.life(1), 8);
        Check.due("the rule", gang.count(7), 9);
        Check.due("paid", gang.paid(5, 0), 11);
        gang.plan();
        Check.due("storms", gang.odds(0), 600000);
    }

    private static void refusedYards() {
        Check.says(3, "IllegalArgumentException: the tape has not so many, n below 0 (nothing changes).");
        for (int n : new int[] {-1, 41, 600, 601, Integer.MIN_VALUE, Integer.MAX_VALUE}) {
            ChimneyGang gang = busy();
            Check.yard(gang, "  z");
            Check.feed(gang, "chimney 5;chimney 6;winds 1;");
            ChimneyGang twin = busy();
            Check.yard(twin, "  z");
            Check.feed(twin, "chimney 5;chimney 6;winds 1;");
            Check.refused("yard(" + n + ")", () -> gang.yard(n));
            Check.alike(gang, twin, "count 5", "fault");
            Check.alike(gang, twin, LOOK);
            Check.alike(gang, twin, DO);
            Check.alike(gang, twin, "yard 28", "count 0", "count 2", "fault");
        }
        ChimneyGang empty = new ChimneyGang();
        Check.refused("yard(1) of an empty tape", () -> empty.yard(1));
        Check.refused("yard(-1) of an empty tape", () -> empty.yard(-1));
        Check.due("yard(0) of an empty tape", empty.yard(0), 0);
    }

    private static void placeOfFault() {
        Check.says(4, "The place of the latest yard()'s FAULT; NONE without.");
        ChimneyGang gang = new ChimneyGang();
        Check.due("none told", gang.fault(), -1);
        Check.yard(gang, "chimney 5;z");
        Check.due("behind a chimney", gang.fault(), 10);
        Check.feed(gang, "chimney 5;");
        Check.due("it stays till a yard is told", gang.fault(), 10);
        Check.yard(gang, "z");
        Check.due("at the begin", gang.fault(), 0);
        Check.yard(gang, "winds");
        Check.due("at the end", gang.fault(), 5);
        Check.yard(gang, "");
        Check.due("without", gang.fault(), -1);
    }

    private static void counts() {
        Check.says(5, "0 CHIMNEYS, 1 LETTERS, 2 DAYS whose WINDS are told, 3 NESTS, 4 ROPES, 5 bytes of the tape, 6 needs, "
            + "7 the RULE.");
        ChimneyGang gang = Check.told("chimney 5;chimney 6;chimney 7;chimney 5;winds 1;"
            + "letter 0 days 1 wind 1 from 1 till 1 price 1;letter 0 days 1 wind 1 from 1 till 1 price 1;"
            + Check.times("nest 0 from 1 till 1;", 7) + "winds 1 2 3 4;");
        for (int rope = 0; rope < 6; rope++) {
            gang.rope(5);
        }
        for (int need = 0; need < 3; need++) {
            gang.need(5);
        }
        gang.rule(11);
        gang.feed(0, 0, 0, 0, 0);
        int[] due = {4, 2, 5, 7, 6, 20, 3, 11};
        for (int what = 0; what < 8; what++) {
            Check.due("count(" + what + ")", gang.count(what), due[what]);
        }
    }

    private static void noSuchCount() {
        Check.says(5, "NoSuchElementException: another what.");
        ChimneyGang gang = new ChimneyGang();
        for (int what : new int[] {-1, 8, Integer.MIN_VALUE, Integer.MAX_VALUE}) {
            Check.missing("count(" + what + ")", () -> gang.count(what));
        }
    }

    private static void letters() {
        Check.says(6, "Of a LETTER: 0 CHIMNEY, 1 DAYS, 2 WIND, 3 'from', 4 'till', 5 price.");
        String letters = "letter 2 days 3 wind 4 from 5 till 26 price 0789;" + "letter 0 days 9 wind 12 from 0 till 0 price 0;"
            + "letter 1 days 1 wind 0 from 29 till 29 price 9999;";
        ChimneyGang gang = Check.told("chimney 30;chimney 50;chimney 200;" + letters);
        int[][] due = {{2, 3, 4, 5, 26, 789}, {0, 9, 12, 0, 0, 0}, {1, 1, 0, 29, 29, 9999}};
        for (int letter = 0; letter < 3; letter++) {
            for (int what = 0; what < 6; what++) {
                Check.due("letter(" + letter + ", " + what + ")", gang.letter(letter, what), due[letter][what]);
            }
        }
    }

    private static void noSuchLetter() {
        Check.says(6, "NoSuchElementException: no such LETTER (as everywhere), what.");
        ChimneyGang gang = Check.told("chimney 3;letter 0 days 3 wind 4 from 5 till 26 price 7;");
        for (int none : new int[] {-1, 1, 8, Integer.MIN_VALUE, Integer.MAX_VALUE}) {
            Check.missing("letter(" + none + ", 0)", () -> gang.letter(none, 0));
            Check.missing("begins(" + none + ", 0)", () -> gang.begins(none, 0));
        }
        for (int none : new int[] {-1, 6, Integer.MIN_VALUE, Integer.MAX_VALUE}) {
            Check.missing("letter(0, " + none + ")", () -> gang.letter(0, none));
        }
        Check.yard(gang, "chimney 3;");
        Check.missing("the letter of the yard ahead", () -> gang.letter(0, 0));
    }

    private static void roads() {
        Check.says(7, "DAYS by ROAD between two CHIMNEYS.");
        ChimneyGang gang = Check.told(TWELVE + "road 0 11 moves 5;road 11 10 moves 9;road 1 0 moves 0;");
        Check.due("road(0, 11)", gang.road(0, 11), 5);
        Check.due("road(11, 0)", gang.road(11, 0), 5);
        Check.due("road(10, 11)", gang.road(10, 11), 9);
        Check.due("road(0, 1)", gang.road(0, 1), 0);
        Check.due("road(10, 0), though by two roads", gang.road(10, 0), 1);
        Check.due("road(11, 11)", gang.road(11, 11), 0);
        Check.due("road(1, 10)", gang.road(1, 10), 1);
    }

    private static void noSuchRoad() {
        Check.says(7, "NoSuchElementException: no such CHIMNEYS (as everywhere).");
        ChimneyGang gang = Check.told("chimney 3;chimney 4;");
        for (int none : new int[] {-1, 2, 11, 12, Integer.MIN_VALUE, Integer.MAX_VALUE}) {
            Check.missing("road(0, " + none + ")", () -> gang.road(0, none));
            Check.missing("road(" + none + ", 0)", () -> gang.road(none, 0));
            Check.missing("road(" + none + ", itself)", () -> gang.road(none, none));
            Check.missing("plumb(" + none + ", ..)", () -> gang.plumb(none, 0, 0));
            Check.missing("doubt(" + none + ", ..)", () -> gang.doubt(none, 0));
            Check.missing("lean(" + none + ", ..)", () -> gang.lean(none, 0, 0));
            Check.missing("limit(" + none + ", ..)", () -> gang.limit(none, 0, 0));
            Check.missing("up(" + none + ", ..)", () -> gang.up(none, 0));
            Check.missing("band(" + none + ", ..)", () -> gang.band(none, 0, 0, 1, 0));
            Check.missing("mortar(" + none + ", ..)", () -> gang.mortar(none, 0));
            Check.missing("weak(" + none + ", ..)", () -> gang.weak(none, 0, 0, 0));
            Check.missing("lasts(" + none + ", ..)", () -> gang.lasts(none, 0, 0));
            Check.missing("bands(" + none + ", ..)", () -> gang.bands(none, 0, 0, 1));
            Check.missing("risk(" + none + ", ..)", () -> gang.risk(none, 0, 1));
            Check.missing("ladders(" + none + ", ..)", () -> gang.ladders(none, 9));
            Check.missing("part(" + none + ", ..)", () -> gang.part(none, 0, 0));
            Check.missing("bill(" + none + ", ..)", () -> gang.bill(none, 1));
        }
    }

    private static ChimneyGang twoLetters() {
        return Check.told("chimney 5;chimney 5;winds 3 3 3 9 3 3 3 3 3 3 3 3;nest 0 from 6 till 7;"
            + "letter 0 days 2 wind 3 from 1 till 9 price 1;letter 1 days 3 wind 3 from 5 till 9 price 1;");
    }

    private static void begins() {
        Check.says(8, "The first DAY from one on (0 or more) on which a LETTER can be begun;");
        ChimneyGang gang = twoLetters();
        Check.due("not ahead of from", gang.begins(0, 0), 1);
        Check.due("on the day", gang.begins(0, 1), 1);
        Check.due("behind the wind", gang.begins(0, 2), 4);
        Check.due("behind the nest", gang.begins(0, 5), 8);
        Check.due("till counts", gang.begins(0, 8), 8);
        Check.due("the nest is of the other chimney", gang.begins(1, 0), 5);
        Check.due("the last three days", gang.begins(1, 7), 7);
    }

    private static void beginsNever() {
        Check.says(8, "NONE: there is none.");
        ChimneyGang gang = twoLetters();
        Check.due("behind till", gang.begins(0, 9), -1);
        Check.due("one too late", gang.begins(1, 8), -1);
        for (int day : new int[] {10, 29, 30, 31, 1000, Integer.MAX_VALUE}) {
            Check.due("begins(0, " + day + ")", gang.begins(0, day), -1);
        }
    }

    private static void beginsRefused() {
        Check.says(8, "IllegalArgumentException: the day is below 0.");
        ChimneyGang gang = twoLetters();
        Check.refused("begins(0, -1)", () -> gang.begins(0, -1));
        Check.refused("begins(1, the least)", () -> gang.begins(1, Integer.MIN_VALUE));
        Check.missing("begins(2, -1): the letter ahead of the day", () -> gang.begins(2, -1));
    }
}
