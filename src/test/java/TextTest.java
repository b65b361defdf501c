/** The language that tells a yard, and its faults: what stands behind "==== 1." in the document's Terms. */
public final class TextTest {
    /** 34 bytes. */
    private static final String THREE = "chimney 30;chimney 50;chimney 200;";
    private static final String CHIMNEY = "chimney 1;";
    private static final String LETTER = "letter 0 days 1 wind 1 from 1 till 1 price 1;";
    private static final String NEST = "nest 0 from 1 till 1;";
    private static final String[] STARTERS = {"chimney", "winds", "letter", "road", "nest"};
    private static final String[] TOKENS = {"chimney", "winds", "letter", "road", "nest", "days", "wind", "from", "till",
        "price", "moves", "a", "z", "5", "0", ";", ".", "A", "-"};

    private TextTest() {
    }

    public static void main(String[] args) {
        sentences();
        Check.end();
    }

    static void sentences() {
        size();
        emptyAtFirst();
        words();
        numbers();
        blanksAndSign();
        yards();
        clauses();
        chimneys();
        winds();
        daysUntold();
        letterDays();
        letterWind();
        letterFromTill();
        letterNest();
        roads();
        roadsToldTwice();
        firstAlongTheText();
        firstByte();
        leastOfOneToken();
        cannotStand();
        endsTooSoon();
        manyDigits();
        notAsTold();
        tooManyWinds();
        tooManyChimneys();
        tooManyLetters();
        tooManyNests();
        chimneyNotTold();
        tillAheadOfFrom();
        roadToItself();
    }

    private static void fault(String text, int fault, int place) {
        ChimneyGang gang = new ChimneyGang();
        Check.due("yard of " + text, Check.yard(gang, text), fault);
        Check.due("fault() of " + text, gang.fault(), place);
        for (int what = 0; what < 4 && fault != 0; what++) {
            Check.due("count(" + what + ") of " + text, gang.count(what), 0);
        }
    }

    private static void right(String text) {
        fault(text, 0, -1);
    }

    private static void size() {
        Check.says(0, "A TEXT of at most 600 bytes tells a YARD");
        ChimneyGang late = Check.told(Check.times(" ", 590) + "chimney 7;");
        Check.due("a chimney in the last ten bytes", late.count(0), 1);
        fault(Check.times(" ", 591) + "chimney 7", 1, 600);
        fault(Check.times("\n", 599) + "x", 1, 599);
        ChimneyGang dense = Check.told(Check.times(CHIMNEY, 12) + Check.times(LETTER, 8) + Check.times(NEST, 4)
            + Check.times("road 0 1 moves 1;", 2) + "\n\n");
        Check.due("chimneys of 600 bytes", dense.count(0), 12);
        Check.due("letters of 600 bytes", dense.count(1), 8);
        Check.due("nests of 600 bytes", dense.count(3), 4);
    }

    private static void emptyAtFirst() {
        Check.says(0, "at first an empty one");
        ChimneyGang gang = new ChimneyGang();
        for (int what = 0; what < 4; what++) {
            Check.due("new: count(" + what + ")", gang.count(what), 0);
        }
        Check.missing("new: road(0, 0)", () -> gang.road(0, 0));
        Check.missing("new: letter(0, 0)", () -> gang.letter(0, 0));
        Check.missing("new: up(0, 0)", () -> gang.up(0, 0));
        Check.due("new: out(200, 99)", gang.out(200, 99), 0);
    }

    private static int faultOf(String text) {
        return Check.yard(new ChimneyGang(), text);
    }

    private static boolean isBlank(int sign) {
        return sign == 32 || sign == 10;
    }

    private static void words() {
        Check.says(0, "words (a .. z, the longest row)");
        for (int sign = 0; sign < 256; sign++) {
            boolean letter = sign >= 97 && sign <= 122;
            boolean digit = sign >= 48 && sign <= 57;
            int place = letter ? 0 : digit || isBlank(sign) ? -1 : 7;
            fault("chimney" + (char) sign + "5;", place < 0 ? 0 : 1, place);
            fault((char) sign + "chimney 5;", isBlank(sign) ? 0 : 1, isBlank(sign) ? -1 : 0);
        }
        fault("chimneychimney 5;", 1, 0);
        fault("chimne 5;", 1, 0);
        fault("c 5;", 1, 0);
        fault("chimnez 5;", 1, 0);
        fault("dhimney 5;", 1, 0);
        fault("chimney 5;azby 5;", 1, 10);
    }

    private static void numbers() {
        Check.says(0, "NUMBERS (1 to 4 digits)");
        for (int sign = 0; sign < 256; sign++) {
            boolean digit = sign >= 48 && sign <= 57;
            int place = digit || isBlank(sign) ? -1 : sign == ';' ? 10 : 9;
            fault("chimney 1" + (char) sign + ";", place < 0 ? 0 : 1, place);
            Check.due("winds, sign " + sign, faultOf("winds " + (char) sign + ";") == 0, digit);
        }
        for (String seven : new String[] {"7", "07", "007", "0007"}) {
            ChimneyGang gang = Check.told("chimney " + seven + ";" + "letter 0 days 1 wind 1 from 1 till 1 price 9999;");
            Check.due("courses of " + seven, gang.ladders(0, 6), 2);
            Check.due("and of one less", gang.ladders(0, 7), 1);
            Check.due("the greatest number", gang.letter(0, 5), 9999);
        }
        fault("chimney 00007;", 2, 8);
    }

    private static void blanksAndSign() {
        Check.says(0, "the sign ; and blanks (32, 10) between them, which count for nothing");
        right(" \n chimney \n\n 5 ; ");
        right("\nchimney\n5\n;\n");
        right("chimney5;chimney6;");
        right(THREE + "letter0days1wind1from1till1price1;road0 1moves1;nest0from1till1;winds1 2;");
        for (int none : new int[] {0, 9, 11, 13, 31, 33, 127, 128, 138, 160, 255}) {
            fault("chimney" + (char) none + "5;", 1, 7);
            fault((char) none + "", 1, 0);
        }
        fault("chim ney 5;", 1, 0);
        fault("chimney 1 2;", 1, 10);
        fault("chimney 5:", 1, 9);
        fault("chimney 5<", 1, 9);
        fault("chimney 5,", 1, 9);
    }

    private static void yards() {
        Check.says(0, "YARD: CLAUSE*.");
        right("");
        right("\n");
        right(CHIMNEY);
        right("winds 1;" + CHIMNEY + NEST + "winds 1;" + LETTER + CHIMNEY + "road 1 0 moves 2;" + NEST + "winds 1 1 1;");
        fault(";", 1, 0);
        fault(CHIMNEY + ";", 1, 10);
    }

    private static boolean isOneOf(String token, String[] some) {
        for (String one : some) {
            if (one.equals(token)) {
                return true;
            }
        }
        return false;
    }

    private static boolean fits(String token, String wanted) {
        boolean digits = Character.isDigit(wanted.charAt(0));
        return digits ? Character.isDigit(token.charAt(0)) : token.equals(wanted);
    }

    /** A clause cut short ahead of each of its tokens, and with each token that can't stand there in its place. */
    private static void form(String clause) {
        String so = THREE;
        String[] wanted = clause.split(" ");
        for (int i = 0; i < wanted.length; i++) {
            fault(so, i == 0 ? 0 : 1, i == 0 ? -1 : so.length());
            boolean more = wanted[0].equals("winds") && i > 1;
            for (String token : TOKENS) {
                boolean can = fits(token, wanted[i]) || i == 0 && isOneOf(token, STARTERS)
                    || more && (fits(token, "5") || token.equals(";"));
                if (!can) {
                    fault(so + token + " ;", 1, so.length());
                }
            }
            so = so + wanted[i] + " ";
        }
        right(so);
        fault(so + ";", 1, so.length());
        right(clause.startsWith("chimney") ? so + so.substring(THREE.length()) : so + CHIMNEY);
    }

    private static void clauses() {
        Check.says(0, "CLAUSE: ('chimney' COURSES |");
        form("chimney 7 ;");
        Check.says(0, "'winds' WIND WIND* |");
        form("winds 7 ;");
        form("winds 7 8 9 ;");
        Check.says(0, "'letter' CHIMNEY 'days' NUMBER 'wind' WIND 'from' DAY 'till' DAY 'price' NUMBER |");
        form("letter 2 days 1 wind 2 from 3 till 4 price 5 ;");
        Check.says(0, "'road' CHIMNEY CHIMNEY 'moves' NUMBER |");
        form("road 2 1 moves 3 ;");
        Check.says(0, "'nest' CHIMNEY 'from' DAY 'till' DAY) ';', all in capitals being NUMBERS.");
        form("nest 2 from 3 till 4 ;");
    }

    private static void chimneys() {
        Check.says(0, "CHIMNEYS are numbered from 0 on, of 1 to 200 COURSES");
        fault("chimney 0;", 2, 8);
        fault("chimney 0000;", 2, 8);
        fault("chimney 201;", 2, 8);
        ChimneyGang gang = Check.told("chimney 1;chimney 200;");
        Check.due("the least has no course 1", gang.band(0, 1, 0, 1, 0), -1);
        Check.due("but a course 0", gang.band(0, 0, 0, 1, 0), 1);
        Check.due("the greatest has no course 200", gang.band(1, 200, 0, 1, 0), -1);
        Check.due("but a course 199", gang.band(1, 199, 0, 1, 0), 1);
        Check.missing("there is no third", () -> gang.band(2, 0, 0, 1, 0));
    }

    private static String letter(int days, int wind, int from, int till) {
        return "letter 0 days " + days + " wind " + wind + " from " + from + " till " + till + " price 1;";
    }

    private static void beginsAre(ChimneyGang gang, int letter, int... begins) {
        for (int day = 0; day < begins.length; day++) {
            Check.due("begins(" + letter + ", " + day + ")", gang.begins(letter, day), begins[day]);
        }
    }

    private static void winds() {
        Check.says(0, "WINDS (0 to 12) are those of DAYS 0, 1 ..");
        fault("winds 13;", 2, 6);
        fault("winds 0 13;", 2, 8);
        ChimneyGang gang = Check.told("chimney 1;winds 12 0 5;" + letter(1, 0, 0, 29) + letter(1, 5, 0, 29)
            + letter(1, 12, 0, 29));
        beginsAre(gang, 0, 1, 1, -1);
        beginsAre(gang, 1, 1, 1, 2, -1);
        beginsAre(gang, 2, 0, 1, 2, -1);
        Check.says(0, "each 'winds' going on from where the one ahead ended");
        ChimneyGang parts = Check.told("winds 12;chimney 1;winds 0;" + letter(1, 5, 0, 29) + "winds 5 9;");
        Check.due("days told", parts.count(2), 4);
        beginsAre(parts, 0, 1, 1, 2, -1);
    }

    private static void daysUntold() {
        Check.says(0, "(at most 30 DAYS; those that aren't told have WIND 13)");
        ChimneyGang full = Check.told("chimney 1;winds" + Check.times(" 3", 30) + ";" + letter(1, 3, 0, 29));
        Check.due("thirty days", full.count(2), 30);
        Check.due("the last of them", full.begins(0, 29), 29);
        Check.yard(full, "chimney 1;winds 1;" + letter(1, 12, 0, 29));
        beginsAre(full, 0, 0, -1);
        full.rope(99);
        full.rule(12);
        Check.due("a day that isn't told, by rule 12", full.climb(0, 0, 0, 1), 2);
        full.rule(13);
        Check.due("a day that isn't told, by rule 13", full.climb(0, 0, 0, 1), 0);
        Check.due("the last day, by rule 13", full.climb(0, 0, 0, 29), 0);
    }

    private static void letterDays() {
        Check.says(0, "A LETTER asks for so many DAYS in a row (1 to 9) at a CHIMNEY");
        ChimneyGang gang = Check.told("chimney 1;winds 0 0 0 0 0 0 0 0 9 0 0 0 0 0 0 0 0 0 9 0 0 0 0 0 0 0 0 0 0;"
            + letter(1, 0, 0, 29) + letter(8, 0, 0, 29) + letter(9, 0, 0, 29));
        Check.due("one day, behind a wind", gang.begins(0, 8), 9);
        Check.due("eight days", gang.begins(1, 0), 0);
        Check.due("eight days, one too late", gang.begins(1, 1), 9);
        Check.due("nine days", gang.begins(2, 0), 9);
        Check.due("nine days of ten", gang.begins(2, 10), 19);
        Check.due("nine days, the last", gang.begins(2, 20), 20);
        Check.due("nine days, one too late", gang.begins(2, 21), -1);
        fault(CHIMNEY + letter(0, 0, 0, 29), 2, 24);
        fault(CHIMNEY + letter(10, 0, 0, 29), 2, 24);
    }

    private static void letterWind() {
        Check.says(0, "none of more WIND than told");
        ChimneyGang gang = Check.told("chimney 1;winds 7 6 5 4 6 7 6;" + letter(1, 4, 0, 29) + letter(1, 5, 0, 29)
            + letter(2, 6, 0, 29) + letter(4, 6, 0, 29) + letter(5, 6, 0, 29));
        beginsAre(gang, 0, 3, 3, 3, 3, -1);
        beginsAre(gang, 1, 2, 2, 2, 3, -1);
        beginsAre(gang, 2, 1, 1, 2, 3, -1, -1);
        beginsAre(gang, 3, 1, 1, -1);
        beginsAre(gang, 4, -1);
    }

    private static void letterFromTill() {
        Check.says(0, "none ahead of 'from', behind 'till' (0 to 29)");
        ChimneyGang gang = Check.told("chimney 1;winds" + Check.times(" 0", 30) + ";" + letter(2, 0, 3, 6)
            + letter(3, 0, 0, 2) + letter(3, 0, 0, 1) + letter(1, 0, 29, 29) + letter(1, 0, 0, 0) + letter(9, 0, 20, 29));
        beginsAre(gang, 0, 3, 3, 3, 3, 4, 5, -1);
        beginsAre(gang, 1, 0, -1);
        beginsAre(gang, 2, -1);
        Check.due("the last day", gang.begins(3, 0), 29);
        Check.due("the last day, from it on", gang.begins(3, 29), 29);
        Check.due("behind the last day", gang.begins(3, 30), -1);
        beginsAre(gang, 4, 0, -1);
        Check.due("the last nine days", gang.begins(5, 21), 21);
        Check.due("one less", gang.begins(5, 22), -1);
        fault(CHIMNEY + letter(1, 0, 30, 29), 2, 38);
        fault(CHIMNEY + letter(1, 0, 0, 30), 2, 45);
    }

    private static void letterNest() {
        Check.says(0, "or while there is a NEST");
        ChimneyGang gang = Check.told("chimney 1;chimney 1;winds" + Check.times(" 0", 30) + ";" + letter(1, 0, 0, 29)
            + letter(3, 0, 0, 29) + "nest 0 from 2 till 4;nest 0 from 8 till 8;nest 0 from 28 till 29;"
            + "letter 1 days 9 wind 0 from 0 till 29 price 0;nest 0 from 3 till 5;");
        beginsAre(gang, 0, 0, 1, 6, 6, 6, 6, 6, 7, 9, 9);
        beginsAre(gang, 1, 9);
        Check.due("the day ahead of a nest", gang.begins(0, 27), 27);
        Check.due("a nest to the end", gang.begins(0, 28), -1);
        Check.due("three days ahead of a nest", gang.begins(1, 25), 25);
        Check.due("one of them a nest's", gang.begins(1, 26), -1);
        beginsAre(gang, 2, 0, 1, 2);
    }

    private static void roads() {
        Check.says(0, "A ROAD: going between two CHIMNEYS takes so many DAYS (0 to 9; 1 without, 0 within one;");
        ChimneyGang gang = Check.told(THREE + "road 0 1 moves 9;road 1 2 moves 0;");
        Check.due("the longest", gang.road(0, 1), 9);
        Check.due("the shortest", gang.road(1, 2), 0);
        Check.due("without", gang.road(0, 2), 1);
        for (int chimney = 0; chimney < 3; chimney++) {
            Check.due("within one", gang.road(chimney, chimney), 0);
        }
        fault(THREE + "road 0 1 moves 10;", 2, 49);
        Check.due("roads without end", faultOf(THREE + Check.times("road 0 1 moves 2;", 33)), 0);
        Check.yard(gang, THREE);
        Check.due("none of the yard ahead", gang.road(0, 1), 1);
    }

    private static void roadsToldTwice() {
        Check.says(0, "the last ROAD told of two counts, either way");
        ChimneyGang gang = Check.told(THREE + "road 0 1 moves 5;road 1 2 moves 3;road 1 0 moves 7;road 2 1 moves 4;"
            + "road 2 1 moves 0;");
        Check.due("road(0, 1)", gang.road(0, 1), 7);
        Check.due("road(1, 0)", gang.road(1, 0), 7);
        Check.due("road(1, 2)", gang.road(1, 2), 0);
        Check.due("road(2, 1)", gang.road(2, 1), 0);
        Check.due("road(0, 2)", gang.road(0, 2), 1);
    }

    private static void firstAlongTheText() {
        Check.says(0, "FAULTS, the first along the text");
        fault("chimney 201;winds 13;x", 2, 8);
        fault("x;chimney 201;", 1, 0);
        fault(THREE + "road 1 1 moves 10", 5, 41);
        fault(THREE + "road 3 3 moves 1;", 3, 39);
        fault(THREE + "nest 1 from 5 till 4 !", 4, 53);
        fault(THREE + "nest 3 from 5 till 4;", 3, 39);
        fault(THREE + "letter 0 days 0 wind 13 from 30 till 31 price", 2, 48);
        fault(Check.times(CHIMNEY, 12) + "road 0 12 moves 1;chimney 1;", 3, 127);
    }

    private static void firstByte() {
        Check.says(0, "at a TOKEN's first byte");
        fault("chimney \n  201;", 2, 11);
        fault("\n\n zzz", 1, 3);
        fault("chimney 5  ;  abc 5;", 1, 14);
        fault(THREE + " road 1  0001 moves 1;", 5, 43);
        fault(THREE + " nest 0003 from", 3, 40);
        fault(THREE + "nest 1 from 5 till   004;", 4, 55);
    }

    private static void leastOfOneToken() {
        Check.says(0, "of one TOKEN the least");
        fault("12345;", 1, 0);
        fault("chimney 5 123456;", 1, 10);
        fault("chimney 5; 201;", 1, 11);
        fault(THREE + "road 0 00000 moves 1;", 2, 41);
        fault(THREE + "road 0 10000 moves 1;", 2, 41);
        fault(THREE + "letter 99999 days", 2, 41);
        fault(THREE + "nest 00003 from", 2, 39);
        fault(THREE + "nest 0 from 3 till 00002;", 2, 53);
        fault(THREE + "letter 0 days 1 wind 1 from 9 till 00008 price 1;", 2, 69);
        fault("winds" + Check.times(" 1", 30) + " x;", 1, 66);
        fault("winds" + Check.times(" 1", 30) + ";winds ;", 1, 72);
        fault("winds" + Check.times(" 1", 30) + " 99999;", 2, 66);
    }

    private static void cannotStand() {
        Check.says(0, "1 a TOKEN that can't stand there, or is none");
        fault("5;", 1, 0);
        fault("days 1;", 1, 0);
        fault("chimney 5 6;", 1, 10);
        fault("chimney 5;;", 1, 10);
        fault("winds 1 winds;", 1, 8);
        fault("winds 1, 2;", 1, 7);
        fault("chimney -5;", 1, 8);
        fault(" Chimney 5;", 1, 1);
        fault("chimney 5.", 1, 9);
        fault("chimney 'a';", 1, 8);
        fault("chimney " + (char) 0xb5 + ";", 1, 8);
        fault(THREE + "road 0 ; moves 1;", 1, 41);
        fault(THREE + "road 0 1 wind 2;", 1, 43);
    }

    private static void endsTooSoon() {
        Check.says(0, "(the text's length where it ends too soon)");
        fault("chimney", 1, 7);
        fault("chimney  ", 1, 9);
        fault("chimney 5", 1, 9);
        fault("chimney 5\n", 1, 10);
        fault("winds 1 2 3", 1, 11);
        fault(THREE + "letter", 1, 40);
        for (int n = 0; n < 10; n++) {
            ChimneyGang gang = new ChimneyGang();
            Check.feed(gang, "chimney 5;");
            Check.due("its first " + n + " bytes", gang.yard(n), n == 0 ? 0 : 1);
            Check.due("the place in them", gang.fault(), n == 0 ? -1 : n < 7 ? 0 : n);
        }
    }

    private static void manyDigits() {
        Check.says(0, "2 one that can, but is too much: a NUMBER of 5 digits or more");
        for (String five : new String[] {"00001", "10000", "99999", "000001", "65537", "4294967297", "4294967299",
            "18446744073709551617", "00000000000000000000000000000001"}) {
            fault("chimney " + five + ";", 2, 8);
            fault("winds " + five + ";", 2, 6);
            fault(THREE + "road " + five + " 0 moves 1;", 2, 39);
            fault(THREE + "road 0 1 moves " + five + ";", 2, 49);
            fault(THREE + "letter 0 days 1 wind 1 from 0 till 29 price " + five + ";", 2, 78);
        }
        right("chimney 0001;");
    }

    /** A number's ends, one less, one more, and as much with too many digits. */
    private static void range(String ahead, String behind, int least, int most) {
        right(ahead + least + behind);
        right(ahead + most + behind);
        right(ahead + "000" + least + behind);
        fault(ahead + "0000" + least + behind, 2, ahead.length());
        fault(ahead + (most + 1) + behind, 2, ahead.length());
        fault(ahead + "9999" + (most == 9999 ? "9" : "") + behind, 2, ahead.length());
        if (least > 0) {
            fault(ahead + (least - 1) + behind, 2, ahead.length());
        }
    }

    private static void notAsTold() {
        Check.says(0, "a NUMBER of 5 digits or more, or not as told");
        range("chimney ", ";", 1, 200);
        range("winds ", ";", 0, 12);
        range("winds 0 12 ", " 3;", 0, 12);
        range(THREE + "letter 0 days ", " wind 1 from 0 till 29 price 1;", 1, 9);
        range(THREE + "letter 0 days 1 wind ", " from 0 till 29 price 1;", 0, 12);
        range(THREE + "letter 0 days 1 wind 1 from ", " till 29 price 1;", 0, 29);
        range(THREE + "letter 0 days 1 wind 1 from 0 till ", " price 1;", 0, 29);
        range(THREE + "letter 0 days 1 wind 1 from 0 till 29 price ", ";", 0, 9999);
        range(THREE + "road 0 1 moves ", ";", 0, 9);
        range(THREE + "nest 0 from ", " till 29;", 0, 29);
        range(THREE + "nest 0 from 0 till ", ";", 0, 29);
    }

    private static void tooManyWinds() {
        Check.says(0, "the 31st WIND");
        right("winds" + Check.times(" 1", 30) + ";");
        fault("winds" + Check.times(" 1", 31) + ";", 2, 66);
        fault("winds" + Check.times(" 1", 30) + ";winds 1;", 2, 72);
        fault("winds" + Check.times(" 1", 30) + ";winds 99", 2, 72);
        fault("winds 1;" + "winds" + Check.times(" 1", 30) + ";", 2, 72);
        fault(Check.times("winds 1;", 31), 2, 246);
        right(Check.times("winds 1;", 30));
    }

    private static void tooManyChimneys() {
        Check.says(0, "the first TOKEN of the 13th CHIMNEY");
        right(Check.times(CHIMNEY, 12));
        fault(Check.times(CHIMNEY, 13), 2, 120);
        fault(Check.times(CHIMNEY, 12) + " chimney", 2, 121);
        fault(Check.times(CHIMNEY, 12) + "chimney 0", 2, 120);
        fault(Check.times(CHIMNEY, 12) + "chimneys 1;", 1, 120);
    }

    private static void tooManyLetters() {
        Check.says(0, "the 9th LETTER");
        right(CHIMNEY + Check.times(LETTER, 8));
        fault(CHIMNEY + Check.times(LETTER, 9), 2, 370);
        fault(CHIMNEY + Check.times(LETTER, 8) + "letter", 2, 370);
        fault(CHIMNEY + Check.times(LETTER, 8) + "letter 9", 2, 370);
        fault(CHIMNEY + Check.times(LETTER, 8) + "letters", 1, 370);
    }

    private static void tooManyNests() {
        Check.says(0, "the 13th NEST");
        right(CHIMNEY + Check.times(NEST, 12));
        fault(CHIMNEY + Check.times(NEST, 13), 2, 262);
        fault(CHIMNEY + Check.times(NEST, 12) + "\nnest", 2, 263);
        fault(CHIMNEY + Check.times(NEST, 12) + "nests", 1, 262);
    }

    private static void chimneyNotTold() {
        Check.says(0, "3 a CHIMNEY that isn't told ahead");
        for (String not : new String[] {"3", "0003", "4", "11", "12", "200", "9999"}) {
            fault(THREE + "letter " + not + " days 1 wind 1 from 1 till 1 price 1;", 3, 41);
            fault(THREE + "road " + not + " 0 moves 1;", 3, 39);
            fault(THREE + "road 0 " + not + " moves 1;", 3, 41);
            fault(THREE + "nest " + not + " from 1 till 1;", 3, 39);
        }
        right(THREE + "letter 2 days 1 wind 1 from 1 till 1 price 1;road 2 0 moves 1;road 0 2 moves 1;nest 2 from 1 till 1;");
        fault("nest 0 from 1 till 1;" + CHIMNEY, 3, 5);
        fault("road 0 1 moves 1;" + THREE, 3, 5);
        fault("chimney 4;letter 1 days 1 wind 1 from 1 till 1 price 1;chimney 5;", 3, 17);
        right(Check.times(CHIMNEY, 12) + "nest 11 from 1 till 1;");
        fault(Check.times(CHIMNEY, 12) + "nest 12 from 1 till 1;", 3, 125);
    }

    private static void tillAheadOfFrom() {
        Check.says(0, "4 of 'till' a DAY ahead of that of 'from'");
        for (int from : new int[] {1, 9, 29}) {
            String letter = THREE + "letter 0 days 1 wind 1 from " + from + " till ";
            String nest = THREE + "nest 0 from " + from + " till ";
            right(letter + from + " price 1;");
            right(nest + from + ";");
            for (int till : new int[] {0, from - 1}) {
                fault(letter + till + " price 1;", 4, letter.length());
                fault(nest + till + ";", 4, nest.length());
            }
        }
    }

    private static void roadToItself() {
        Check.says(0, "5 of a ROAD a second CHIMNEY that is the first");
        fault(THREE + "road 0 0 moves 1;", 5, 41);
        fault(THREE + "road 2 2 moves 1;", 5, 41);
        fault(THREE + "road 2 02 moves 1;", 5, 41);
        right(THREE + "road 2 1 moves 1;");
        fault(CHIMNEY + "road 0 0 moves 1;", 5, 17);
        fault(Check.times(CHIMNEY, 12) + "road 11 11 moves 1;", 5, 128);
    }
}
