import java.util.Arrays;
import java.util.NoSuchElementException;

/** A gang of steeplejacks and its yard of chimneys; ../shared/DOC.md tells what each call answers. */
public final class ChimneyGang {
    public static final int NONE = -1;

    private static final int MOST_BYTES = 600;
    private static final int MOST_CHIMNEYS = 12;
    private static final int MOST_COURSES = 200;
    private static final int MOST_LETTERS = 8;
    private static final int MOST_NESTS = 12;
    private static final int MOST_DAYS = 30;
    private static final int MOST_NUMBER = 9999;
    private static final int WIND_TOLD = 12;
    private static final int WIND_UNTOLD = 13;
    private static final int LAST_TOLD_YEAR = 300;
    private static final int LAST_YEAR = 500;
    private static final int MOST_BILL = 99999;
    /** More than any number that is compared with it. */
    private static final int VAST = 1000000000;

    private final int[] tape = new int[MOST_BYTES];
    private int taped = 0;
    private int faultPlace = NONE;
    private final Reader reader = new Reader();
    private Yard told = new Yard();
    private Yard draft = new Yard();
    private final Plan kept = new Plan();
    private final int[] chances = new int[MOST_DAYS];
    private final Plumb plumbed = new Plumb();
    private final Trial trial = new Trial();
    private final Gear gear = new Gear();
    private final Climbing climbing = new Climbing();
    private final Climbing imaged = new Climbing();
    private boolean hasImage = false;
    private final Iron iron = new Iron();
    private final Order best = new Order();
    private final Owners owners = new Owners();

    public ChimneyGang() {
    }

    // ---- the tape and the yard that it tells

    public int feed(int a, int b, int c, int d, int e) {
        if (taped + 20 > MOST_BYTES) {
            return NONE;
        }
        putBytes(a);
        putBytes(b);
        putBytes(c);
        putBytes(d);
        putBytes(e);
        return taped;
    }

    private void putBytes(int number) {
        for (int shift = 24; shift >= 0 && taped < MOST_BYTES; shift -= 8) {
            tape[taped] = number >> shift & 255;
            taped++;
        }
    }

    public int yard(int n) throws IllegalArgumentException {
        if (n < 0 || n > taped) {
            throw new IllegalArgumentException("the tape has not so many bytes");
        }
        int fault = reader.read(tape, n, draft);
        taped = 0;
        faultPlace = reader.place;
        if (fault == 0) {
            takeDraft();
        }
        return fault;
    }

    private void takeDraft() {
        Yard old = told;
        told = draft;
        draft = old;
        kept.drop();
        plumbed.clear();
        iron.clear();
        best.clear();
        climbing.clear();
        hasImage = false;
        owners.clearParts();
    }

    public int fault() {
        return faultPlace;
    }

    public int count(int what) throws NoSuchElementException {
        switch (what) {
            case 0:
                return told.chimneys;
            case 1:
                return told.letters;
            case 2:
                return told.days;
            case 3:
                return told.nests;
            case 4:
                return climbing.ropes;
            case 5:
                return taped;
            case 6:
                return gear.needs;
            case 7:
                return climbing.rule;
            default:
                throw new NoSuchElementException("nothing so counted");
        }
    }

    public int letter(int letter, int what) throws NoSuchElementException {
        askLetter(letter);
        askWhat(what, Yard.FACTS);
        return told.fact(letter, what);
    }

    public int road(int a, int b) throws NoSuchElementException {
        askChimney(a);
        askChimney(b);
        return told.travel(a, b);
    }

    public int begins(int letter, int day) throws NoSuchElementException, IllegalArgumentException {
        askLetter(letter);
        if (day < 0) {
            throw new IllegalArgumentException("the day is below 0");
        }
        return told.firstDay(letter, day);
    }

    private void askChimney(int chimney) {
        if (chimney < 0 || chimney >= told.chimneys) {
            throw new NoSuchElementException("no such chimney");
        }
    }

    private void askLetter(int letter) {
        if (letter < 0 || letter >= told.letters) {
            throw new NoSuchElementException("no such letter");
        }
    }

    private static void askWhat(int what, int many) {
        if (what < 0 || what >= many) {
            throw new NoSuchElementException("no such what");
        }
    }

    private static void askOwner(int owner) {
        if (owner < 0 || owner >= Owners.MANY) {
            throw new NoSuchElementException("no such owner");
        }
    }

    private static boolean between(int least, int number, int most) {
        return number >= least && number <= most;
    }

    // ---- the plan of letters, its gangs and its storms

    public int plan() {
        return kept.make(told);
    }

    public int planned(int i, int what) throws NoSuchElementException {
        askWhat(what, 2);
        if (!kept.made || i < NONE || i >= kept.many) {
            throw new NoSuchElementException("nothing so planned");
        }
        if (i == NONE) {
            return what == 0 ? kept.many : kept.lastDay;
        }
        return what == 0 ? kept.row[i] : kept.begin[i];
    }

    public int even(int gangs) {
        if (!kept.made || !between(2, gangs, Plan.MOST_GANGS)) {
            return NONE;
        }
        return kept.layEven(told, gangs);
    }

    public int gang(int i) throws NoSuchElementException {
        if (!kept.shared || i < 0 || i >= kept.many) {
            throw new NoSuchElementException("no such letter on a gang");
        }
        return kept.gangOf[i];
    }

    public boolean storm(int day, int chance) {
        if (!between(0, day, MOST_DAYS - 1) || !between(0, chance, 100)) {
            return false;
        }
        chances[day] = chance;
        return true;
    }

    public int odds(int what) throws NoSuchElementException {
        askWhat(what, 102);
        if (!kept.made) {
            return NONE;
        }
        return what == 0 ? kept.chanceToGo(told, chances) : kept.doneBefore(told, firstStorm(what - 1));
    }

    private int firstStorm(int above) {
        for (int day = 0; day < MOST_DAYS; day++) {
            if (chances[day] > above) {
                return day;
            }
        }
        return MOST_DAYS;
    }

    // ---- lean by plumb

    public boolean plumb(int chimney, int year, int millimetres) throws NoSuchElementException {
        askChimney(chimney);
        if (!between(0, year, LAST_TOLD_YEAR) || !between(-3000, millimetres, 3000)) {
            return false;
        }
        return plumbed.add(chimney, year, millimetres);
    }

    public boolean doubt(int chimney, int doubt) throws NoSuchElementException {
        askChimney(chimney);
        if (!between(0, doubt, 500)) {
            return false;
        }
        plumbed.doubts[chimney] = doubt;
        return true;
    }

    public int lean(int chimney, int year, int what) throws NoSuchElementException, IllegalArgumentException {
        askChimney(chimney);
        askWhat(what, 2);
        if (!between(0, year, LAST_YEAR) || !plumbed.hasLean(chimney)) {
            throw new IllegalArgumentException("there is no lean of that year");
        }
        return what == 0 ? plumbed.least(chimney, year) : plumbed.greatest(chimney, year);
    }

    public int limit(int chimney, int limit, int what) throws NoSuchElementException {
        askChimney(chimney);
        askWhat(what, 2);
        if (!plumbed.hasLean(chimney)) {
            return NONE;
        }
        for (int year = plumbed.latestYear(chimney); year <= LAST_YEAR; year++) {
            int lean = what == 0 ? plumbed.greatest(chimney, year) : plumbed.least(chimney, year);
            if (lean >= limit) {
                return year;
            }
        }
        return NONE;
    }

    // ---- trials of rods and walls

    public boolean rod(int n, int good, int bad) {
        if (!between(2, n, Trial.MOST_PARTS) || !between(0, good, 99) || !between(0, bad, 99) || good == bad) {
            return false;
        }
        trial.begin(Trial.ROD, n, good, bad);
        return true;
    }

    public boolean wall(int n) {
        if (!between(2, n, Trial.MOST_PARTS)) {
            return false;
        }
        trial.begin(Trial.WALL, n, 0, 1);
        return true;
    }

    public int tell(int i, int j, int answer) throws IllegalArgumentException {
        if (trial.kind == Trial.NOTHING) {
            return NONE;
        }
        if (!trial.canAsk(i, j)) {
            throw new IllegalArgumentException("no such question");
        }
        trial.keepFitting(i, j, answer);
        return trial.fitting;
    }

    public int sure(int what) throws NoSuchElementException, IllegalArgumentException {
        askWhat(what, 3);
        if (trial.kind == Trial.NOTHING) {
            throw new IllegalArgumentException("nothing is tried");
        }
        if (what == 2) {
            return trial.fitting;
        }
        return trial.inAll(what == 1);
    }

    public int next(int what) throws NoSuchElementException, IllegalArgumentException {
        askWhat(what, 3);
        if (trial.kind == Trial.NOTHING || trial.fitting == 0) {
            throw new IllegalArgumentException("nothing is left to ask");
        }
        trial.findQuestion();
        if (what == 2) {
            return trial.rest;
        }
        return what == 0 ? trial.askI : trial.askJ;
    }

    // ---- felling

    public boolean stands(int bricks, int x, int y) throws IllegalArgumentException {
        askCentre(x, y);
        return Foot.holds(bricks & Foot.ALL, x, y);
    }

    public int cut(int k, int n, int x, int y) throws IllegalArgumentException {
        if (!between(0, k, Foot.BRICKS - 1) || !between(1, n, Foot.MOST_CUT)) {
            throw new IllegalArgumentException("no such cut");
        }
        askCentre(x, y);
        return Foot.fallOf(k, n, x, y, Foot.spare(x, y));
    }

    public int fell(int from, int to, int x, int y) throws IllegalArgumentException {
        if (!between(0, from, Foot.BRICKS - 1) || !between(0, to, Foot.BRICKS - 1)) {
            throw new IllegalArgumentException("no such bricks");
        }
        askCentre(x, y);
        return Foot.fewest(from, to, x, y);
    }

    private static void askCentre(int x, int y) {
        if (!between(-95, x, 95) || !between(-95, y, 95)) {
            throw new IllegalArgumentException("no such centre");
        }
    }

    // ---- ropes and climbing

    public int rope(int life) {
        if (!between(1, life, MOST_NUMBER)) {
            return NONE;
        }
        return climbing.addRope(life);
    }

    public int life(int rope) throws NoSuchElementException {
        if (rope < 0 || rope >= climbing.ropes) {
            throw new NoSuchElementException("no such rope");
        }
        return climbing.lives[rope];
    }

    public int need(int much) {
        if (!between(1, much, MOST_NUMBER)) {
            return NONE;
        }
        return gear.addNeed(much);
    }

    public int ropes(int life) {
        int fewest = gear.fewestRopes(life);
        gear.needs = 0;
        return fewest;
    }

    public boolean rule(int wind) {
        if (!between(0, wind, WIND_UNTOLD)) {
            return false;
        }
        climbing.rule = wind;
        return true;
    }

    public int climb(int man, int chimney, int rope, int day) {
        int refused = refusal(man, chimney, rope, day);
        climbing.went[refused]++;
        if (refused == 0) {
            climbing.goUp(man, chimney, rope, day, told.courses[chimney]);
        }
        return refused;
    }

    private int refusal(int man, int chimney, int rope, int day) {
        if (!between(0, man, Climbing.MEN - 1) || !between(0, chimney, told.chimneys - 1)
                || !between(0, rope, climbing.ropes - 1) || !between(0, day, MOST_DAYS - 1)) {
            return 1;
        }
        if (told.winds[day] > climbing.rule) {
            return 2;
        }
        if (told.hasNest(chimney, day)) {
            return 3;
        }
        if (climbing.isUp(man, day)) {
            return 4;
        }
        if (man >= Climbing.MASTERS && !climbing.hasMaster(chimney, day)) {
            return 5;
        }
        return climbing.lives[rope] < told.courses[chimney] ? 6 : 0;
    }

    public int climbs(int what) throws NoSuchElementException {
        askWhat(what, Climbing.ENDS);
        return climbing.went[what];
    }

    public int up(int chimney, int day) throws NoSuchElementException {
        askChimney(chimney);
        if (!between(0, day, MOST_DAYS - 1)) {
            throw new NoSuchElementException("no such day");
        }
        return climbing.menUp[chimney * MOST_DAYS + day];
    }

    public int back() {
        return climbing.takeBack(told);
    }

    public void image() {
        imaged.copy(climbing);
        hasImage = true;
    }

    public boolean restore() {
        if (!hasImage) {
            return false;
        }
        climbing.copy(imaged);
        return true;
    }

    // ---- bands of iron

    public int band(int chimney, int course, int year, int pull, int rust) throws NoSuchElementException {
        askChimney(chimney);
        if (!between(0, course, told.courses[chimney] - 1) || !between(0, year, LAST_TOLD_YEAR)
                || !between(1, pull, MOST_NUMBER) || !between(0, rust, 999)) {
            return NONE;
        }
        return iron.add(chimney, course, year, pull, rust);
    }

    public boolean mortar(int chimney, int much) throws NoSuchElementException {
        askChimney(chimney);
        if (!between(0, much, MOST_NUMBER)) {
            return false;
        }
        iron.mortars[chimney] = much;
        return true;
    }

    public int weak(int chimney, int year, int wind, int what) throws NoSuchElementException, IllegalArgumentException {
        askChimney(chimney);
        askWhat(what, 3);
        askYearAndWind(year, wind);
        int courses = told.courses[chimney];
        iron.fillBears(chimney, year, courses);
        if (what == 0) {
            return iron.weakOnes(courses, wind);
        }
        return what == 1 ? iron.leastWeak(courses, wind) : iron.mostWanting(courses, wind);
    }

    public int lasts(int chimney, int year, int wind) throws NoSuchElementException, IllegalArgumentException {
        askChimney(chimney);
        askYearAndWind(year, wind);
        int courses = told.courses[chimney];
        for (int further = 0; further <= 100; further++) {
            iron.fillBears(chimney, year + further, courses);
            if (iron.leastWeak(courses, wind) != NONE) {
                return year + further;
            }
        }
        return NONE;
    }

    public int bands(int chimney, int year, int wind, int pull)
            throws NoSuchElementException, IllegalArgumentException {
        askChimney(chimney);
        askYearAndWind(year, wind);
        if (!between(1, pull, MOST_NUMBER)) {
            throw new IllegalArgumentException("no such pull");
        }
        int courses = told.courses[chimney];
        iron.fillBears(chimney, year, courses);
        return iron.fewestNew(courses, wind, pull);
    }

    private static void askYearAndWind(int year, int wind) {
        if (!between(0, year, LAST_YEAR) || !between(0, wind, WIND_UNTOLD)) {
            throw new IllegalArgumentException("no such year or wind");
        }
    }

    // ---- the order of chimneys, ladders

    public boolean risk(int chimney, int risk, int work) throws NoSuchElementException {
        askChimney(chimney);
        if (!between(0, risk, 999) || !between(1, work, 99)) {
            return false;
        }
        best.risks[chimney] = risk;
        best.works[chimney] = work;
        return true;
    }

    public int order(int chimneys) {
        if (chimneys == 0 || chimneys >>> told.chimneys != 0 || Integer.bitCount(chimneys) > Order.MOST) {
            return NONE;
        }
        return best.make(told, chimneys);
    }

    public int ordered(int i) throws NoSuchElementException {
        if (i < 0 || i >= best.many) {
            throw new NoSuchElementException("nothing so ordered");
        }
        return best.row[i];
    }

    public int ladders(int chimney, int courses) throws NoSuchElementException, IllegalArgumentException {
        askChimney(chimney);
        askLadder(courses);
        return Gear.laddersFor(told.courses[chimney], courses);
    }

    public int out(int many, int courses) throws IllegalArgumentException {
        if (!between(0, many, Gear.MOST_LADDERS)) {
            throw new IllegalArgumentException("no such ladders");
        }
        askLadder(courses);
        return gear.mostOut(told, many, courses);
    }

    private static void askLadder(int courses) {
        if (!between(3, courses, 99)) {
            throw new IllegalArgumentException("no such ladders");
        }
    }

    // ---- owners

    public boolean means(int owner, int much) throws NoSuchElementException {
        askOwner(owner);
        if (!between(0, much, MOST_NUMBER)) {
            return false;
        }
        owners.means[owner] = much;
        return true;
    }

    public boolean part(int chimney, int owner, int part) throws NoSuchElementException {
        askChimney(chimney);
        askOwner(owner);
        if (!between(0, part, 100)) {
            return false;
        }
        owners.parts[chimney * Owners.MANY + owner] = part;
        return true;
    }

    public int bill(int chimney, int much) throws NoSuchElementException, IllegalArgumentException {
        askChimney(chimney);
        if (!between(1, much, MOST_BILL)) {
            throw new IllegalArgumentException("no such bill");
        }
        return owners.settle(chimney, much);
    }

    public int paid(int owner, int what) throws NoSuchElementException {
        askOwner(owner);
        askWhat(what, 2);
        return what == 0 ? owners.payments[owner] : owners.means[owner];
    }

    /** What a text tells: chimneys, winds, letters, roads, nests. */
    private static final class Yard {
        static final int FACTS = 6;
        static final int CHIMNEY = 0;
        static final int DAYS = 1;
        static final int WIND = 2;
        static final int FROM = 3;
        static final int TILL = 4;
        static final int PRICE = 5;

        final int[] courses = new int[MOST_CHIMNEYS];
        final int[] moves = new int[MOST_CHIMNEYS * MOST_CHIMNEYS];
        final int[] winds = new int[MOST_DAYS];
        final int[] facts = new int[MOST_LETTERS * FACTS];
        /** Of each chimney the days of its nests, as bits. */
        final int[] nestDays = new int[MOST_CHIMNEYS];
        int chimneys = 0;
        int days = 0;
        int letters = 0;
        int nests = 0;

        Yard() {
            clear();
        }

        void clear() {
            Arrays.fill(moves, 1);
            Arrays.fill(winds, WIND_UNTOLD);
            Arrays.fill(nestDays, 0);
            chimneys = 0;
            days = 0;
            letters = 0;
            nests = 0;
        }

        void setTravel(int a, int b, int days) {
            moves[a * MOST_CHIMNEYS + b] = days;
            moves[b * MOST_CHIMNEYS + a] = days;
        }

        int travel(int a, int b) {
            return a == b ? 0 : moves[a * MOST_CHIMNEYS + b];
        }

        int fact(int letter, int what) {
            return facts[letter * FACTS + what];
        }

        void setFact(int letter, int what, int number) {
            facts[letter * FACTS + what] = number;
        }

        void addNest(int chimney, int from, int till) {
            for (int day = from; day <= till; day++) {
                nestDays[chimney] |= 1 << day;
            }
            nests++;
        }

        boolean hasNest(int chimney, int day) {
            return (nestDays[chimney] >> day & 1) != 0;
        }

        int firstDay(int letter, int day) {
            int chimney = fact(letter, CHIMNEY);
            int wind = fact(letter, WIND);
            int wanted = fact(letter, DAYS);
            int till = fact(letter, TILL);
            int inRow = 0;
            for (int d = Math.max(day, fact(letter, FROM)); d <= till; d++) {
                inRow = winds[d] <= wind && !hasNest(chimney, d) ? inRow + 1 : 0;
                if (inRow == wanted) {
                    return d - wanted + 1;
                }
            }
            return NONE;
        }
    }

    /** Reads a text into a yard up to its first fault; behind a fault nothing more is taken. */
    private static final class Reader {
        private static final int END = 0;
        private static final int WORD = 1;
        private static final int NUMBER = 2;
        private static final int SIGN = 3;
        private static final int OTHER = 4;
        private static final int BLANK = 5;
        private static final int OUT_OF_PLACE = 1;
        private static final int TOO_MUCH = 2;
        private static final int NOT_TOLD = 3;
        private static final int TILL_AHEAD = 4;
        private static final int SAME_CHIMNEY = 5;
        private static final int MOST_DIGITS = 4;

        private int[] text = new int[0];
        private int length = 0;
        private int kind = END;
        private int start = 0;
        private int end = 0;
        /** Of a number of too many digits one more than any number may be. */
        private int value = 0;
        private int fault = 0;
        private int place = NONE;

        int read(int[] bytes, int many, Yard into) {
            text = bytes;
            length = Math.min(many, bytes.length);
            end = 0;
            fault = 0;
            place = NONE;
            into.clear();
            step();
            for (int clause = 0; clause < MOST_BYTES && fault == 0 && kind != END; clause++) {
                if (isWord("chimney")) {
                    readChimney(into);
                } else if (isWord("winds")) {
                    readWinds(into);
                } else if (isWord("letter")) {
                    readLetter(into);
                } else if (isWord("road")) {
                    readRoad(into);
                } else if (isWord("nest")) {
                    readNest(into);
                } else {
                    fail(OUT_OF_PLACE);
                }
            }
            return fault;
        }

        private void readChimney(Yard into) {
            if (into.chimneys >= MOST_CHIMNEYS) {
                fail(TOO_MUCH);
                return;
            }
            step();
            int courses = takeNumber(1, MOST_COURSES);
            takeSign();
            if (fault == 0) {
                into.courses[into.chimneys] = courses;
                into.chimneys++;
            }
        }

        private void readWinds(Yard into) {
            step();
            takeDaysWind(into);
            for (int more = 0; more < MOST_DAYS && fault == 0 && kind == NUMBER; more++) {
                takeDaysWind(into);
            }
            takeSign();
        }

        private void takeDaysWind(Yard into) {
            if (kind == NUMBER && into.days >= MOST_DAYS) {
                fail(TOO_MUCH);
            }
            int wind = takeNumber(0, WIND_TOLD);
            if (fault == 0) {
                into.winds[into.days] = wind;
                into.days++;
            }
        }

        private void readLetter(Yard into) {
            if (into.letters >= MOST_LETTERS) {
                fail(TOO_MUCH);
                return;
            }
            step();
            int letter = into.letters;
            into.setFact(letter, Yard.CHIMNEY, takeChimney(into, NONE));
            takeWord("days");
            into.setFact(letter, Yard.DAYS, takeNumber(1, 9));
            takeWord("wind");
            into.setFact(letter, Yard.WIND, takeNumber(0, WIND_TOLD));
            takeWord("from");
            int from = takeNumber(0, MOST_DAYS - 1);
            into.setFact(letter, Yard.FROM, from);
            takeWord("till");
            into.setFact(letter, Yard.TILL, takeTill(from));
            takeWord("price");
            into.setFact(letter, Yard.PRICE, takeNumber(0, MOST_NUMBER));
            takeSign();
            if (fault == 0) {
                into.letters++;
            }
        }

        private void readRoad(Yard into) {
            step();
            int one = takeChimney(into, NONE);
            int other = takeChimney(into, one);
            takeWord("moves");
            int days = takeNumber(0, 9);
            takeSign();
            if (fault == 0) {
                into.setTravel(one, other, days);
            }
        }

        private void readNest(Yard into) {
            if (into.nests >= MOST_NESTS) {
                fail(TOO_MUCH);
                return;
            }
            step();
            int chimney = takeChimney(into, NONE);
            takeWord("from");
            int from = takeNumber(0, MOST_DAYS - 1);
            takeWord("till");
            int till = takeTill(from);
            takeSign();
            if (fault == 0) {
                into.addNest(chimney, from, till);
            }
        }

        private int takeChimney(Yard into, int unlike) {
            if (kind == NUMBER && value <= MOST_NUMBER) {
                if (value >= into.chimneys) {
                    fail(NOT_TOLD);
                } else if (value == unlike) {
                    fail(SAME_CHIMNEY);
                }
            }
            return takeNumber(0, MOST_NUMBER);
        }

        private int takeTill(int from) {
            if (kind == NUMBER && value < from) {
                fail(TILL_AHEAD);
            }
            return takeNumber(0, MOST_DAYS - 1);
        }

        private int takeNumber(int least, int most) {
            if (fault != 0) {
                return 0;
            }
            if (kind != NUMBER) {
                fail(OUT_OF_PLACE);
                return 0;
            }
            if (value < least || value > most) {
                fail(TOO_MUCH);
                return 0;
            }
            int number = value;
            step();
            return number;
        }

        private void takeWord(String word) {
            if (isWord(word)) {
                step();
            } else {
                fail(OUT_OF_PLACE);
            }
        }

        private void takeSign() {
            if (kind == SIGN) {
                step();
            } else {
                fail(OUT_OF_PLACE);
            }
        }

        /** Only the first fault counts, so what is read behind it can't change it. */
        private void fail(int code) {
            if (fault == 0) {
                fault = code;
                place = start;
            }
        }

        private boolean isWord(String word) {
            if (kind != WORD || end - start != word.length()) {
                return false;
            }
            for (int i = 0; i < word.length(); i++) {
                if (text[start + i] != word.charAt(i)) {
                    return false;
                }
            }
            return true;
        }

        /** Stays at the token of a fault: the token is looked at again by what comes behind. */
        private void step() {
            if (fault != 0) {
                return;
            }
            start = end;
            while (start < length && kindOf(text[start]) == BLANK) {
                start++;
            }
            kind = start < length ? kindOf(text[start]) : END;
            end = kind == END ? start : start + 1;
            boolean inRow = kind == WORD || kind == NUMBER;
            while (inRow && end < length && kindOf(text[end]) == kind) {
                end++;
            }
            value = kind == NUMBER ? readValue() : 0;
        }

        private int readValue() {
            if (end - start > MOST_DIGITS) {
                return MOST_NUMBER + 1;
            }
            int number = 0;
            for (int i = start; i < end; i++) {
                number = number * 10 + text[i] - '0';
            }
            return number;
        }

        private static int kindOf(int sign) {
            if (sign >= 'a' && sign <= 'z') {
                return WORD;
            }
            if (sign >= '0' && sign <= '9') {
                return NUMBER;
            }
            if (sign == ' ' || sign == '\n') {
                return BLANK;
            }
            return sign == ';' ? SIGN : OTHER;
        }
    }

    /** The plan that is kept. Sets of letters are bits; a state is a set and the letter that is its last one. */
    private static final class Plan {
        static final int MOST_GANGS = 4;
        private static final int SETS = 1 << MOST_LETTERS;
        /** Days 0 to 29 and the one behind them. */
        private static final int SPAN = MOST_DAYS + 1;
        private static final int NEVER = 1000;

        /** Of each letter and day the first day from it on, the last day up to it, on which it can be begun. */
        private final int[] firstFrom = new int[MOST_LETTERS * SPAN];
        private final int[] lastUpTo = new int[MOST_LETTERS * SPAN];
        private final int[] prices = new int[SETS];
        /** Of each state the earliest last day. */
        private final int[] early = new int[SETS * MOST_LETTERS];
        /** Of each state the latest last day with which the best can still be had. */
        private final int[] late = new int[SETS * MOST_LETTERS];
        private final int[] weights = new int[MOST_LETTERS];
        private final int[] loads = new int[MOST_GANGS];
        private final int[] tried = new int[MOST_LETTERS];
        private int leastLoad = 0;

        final int[] row = new int[MOST_LETTERS];
        final int[] begin = new int[MOST_LETTERS];
        final int[] gangOf = new int[MOST_LETTERS];
        int many = 0;
        int lastDay = NONE;
        int price = 0;
        boolean made = false;
        boolean shared = false;

        void drop() {
            made = false;
            shared = false;
        }

        int make(Yard yard) {
            for (int letter = 0; letter < yard.letters; letter++) {
                fillBegins(yard, letter);
            }
            fillEarly(yard);
            findBest(yard);
            fillLate(yard);
            fillRow(yard);
            made = true;
            shared = false;
            return price;
        }

        private void fillBegins(Yard yard, int letter) {
            int last = NONE;
            for (int day = 0; day < SPAN; day++) {
                int first = yard.firstDay(letter, day);
                last = first == day ? day : last;
                firstFrom[letter * SPAN + day] = first;
                lastUpTo[letter * SPAN + day] = last;
            }
        }

        /** The last day of a letter that can't be worked before a day; NEVER if it can't be done so. */
        private int endOf(Yard yard, int letter, int day) {
            int first = day < SPAN ? firstFrom[letter * SPAN + day] : NONE;
            return first == NONE ? NEVER : first + yard.fact(letter, Yard.DAYS) - 1;
        }

        /** To end early is never worse, so of the rows of one state only the earliest end counts. */
        private void fillEarly(Yard yard) {
            Arrays.fill(early, NEVER);
            for (int letter = 0; letter < yard.letters; letter++) {
                early[(1 << letter) * MOST_LETTERS + letter] = endOf(yard, letter, 0);
            }
            for (int set = 1; set < 1 << yard.letters; set++) {
                for (int last = 0; last < yard.letters; last++) {
                    if (early[set * MOST_LETTERS + last] != NEVER) {
                        goOn(yard, set, last);
                    }
                }
            }
        }

        private void goOn(Yard yard, int set, int last) {
            int end = early[set * MOST_LETTERS + last];
            for (int next = 0; next < yard.letters; next++) {
                if ((set >> next & 1) == 0) {
                    int state = (set | 1 << next) * MOST_LETTERS + next;
                    early[state] = Math.min(early[state], endOf(yard, next, end + 1 + travel(yard, last, next)));
                }
            }
        }

        private static int travel(Yard yard, int letter, int next) {
            return yard.travel(yard.fact(letter, Yard.CHIMNEY), yard.fact(next, Yard.CHIMNEY));
        }

        private void findBest(Yard yard) {
            price = 0;
            lastDay = NONE;
            prices[0] = 0;
            for (int set = 1; set < 1 << yard.letters; set++) {
                prices[set] = 0;
                int end = NEVER;
                for (int letter = 0; letter < yard.letters; letter++) {
                    if ((set >> letter & 1) != 0) {
                        prices[set] += yard.fact(letter, Yard.PRICE);
                        end = Math.min(end, early[set * MOST_LETTERS + letter]);
                    }
                }
                if (end != NEVER && (prices[set] > price || prices[set] == price && end < lastDay)) {
                    price = prices[set];
                    lastDay = end;
                }
            }
        }

        private void fillLate(Yard yard) {
            for (int set = (1 << yard.letters) - 1; set > 0; set--) {
                for (int last = 0; last < yard.letters; last++) {
                    late[set * MOST_LETTERS + last] = (set >> last & 1) != 0 ? latestEnd(yard, set, last) : NONE;
                }
            }
        }

        private int latestEnd(Yard yard, int set, int last) {
            int latest = prices[set] == price ? lastDay : NONE;
            for (int next = 0; next < yard.letters; next++) {
                if ((set >> next & 1) == 0) {
                    int by = late[(set | 1 << next) * MOST_LETTERS + next] - yard.fact(next, Yard.DAYS) + 1;
                    int begun = by < 0 ? NONE : lastUpTo[next * SPAN + by];
                    if (begun != NONE) {
                        latest = Math.max(latest, begun - 1 - travel(yard, last, next));
                    }
                }
            }
            return latest;
        }

        /** Takes at each step the least letter with which the best can still be had. */
        private void fillRow(Yard yard) {
            many = 0;
            int set = 0;
            int day = 0;
            for (int step = 0; step < yard.letters && prices[set] != price; step++) {
                int next = leastNext(yard, set, day);
                if (next == NONE) {
                    return;
                }
                int end = endOf(yard, next, dayAt(yard, next, day));
                row[many] = next;
                begin[many] = end - yard.fact(next, Yard.DAYS) + 1;
                many++;
                set |= 1 << next;
                day = end + 1;
            }
        }

        private int leastNext(Yard yard, int set, int day) {
            for (int next = 0; next < yard.letters; next++) {
                if ((set >> next & 1) == 0
                        && endOf(yard, next, dayAt(yard, next, day)) <= late[(set | 1 << next) * MOST_LETTERS + next]) {
                    return next;
                }
            }
            return NONE;
        }

        /** The day on which the gang, free from a day on, is at a letter's chimney. */
        private int dayAt(Yard yard, int next, int day) {
            return many == 0 ? day : day + travel(yard, row[many - 1], next);
        }

        int layEven(Yard yard, int gangs) {
            for (int i = 0; i < many; i++) {
                int chimney = yard.fact(row[i], Yard.CHIMNEY);
                weights[i] = yard.fact(row[i], Yard.DAYS) * yard.courses[chimney];
            }
            leastLoad = VAST;
            lay(this, 0, gangs, 0);
            shared = true;
            return leastLoad;
        }

        /** Gangs are alike, so the first of like rows begins no gang ahead of a lesser one. Loads end as they began. */
        private static void lay(Plan plan, int i, int gangs, int used) {
            if (i >= plan.many || i >= MOST_LETTERS) {
                plan.keepShares(gangs);
                return;
            }
            for (int gang = 0; gang <= used && gang < gangs; gang++) {
                plan.loads[gang] += plan.weights[i];
                plan.tried[i] = gang;
                if (plan.loads[gang] < plan.leastLoad) {
                    lay(plan, i + 1, gangs, Math.max(used, gang + 1));
                }
                plan.loads[gang] -= plan.weights[i];
            }
        }

        /** Only a row that is better is kept, so of like ones the first stays. */
        private void keepShares(int gangs) {
            int greatest = 0;
            for (int gang = 0; gang < gangs; gang++) {
                greatest = Math.max(greatest, loads[gang]);
            }
            if (greatest < leastLoad) {
                leastLoad = greatest;
                System.arraycopy(tried, 0, gangOf, 0, many);
            }
        }

        int chanceToGo(Yard yard, int[] chances) {
            int odds = 1000000;
            for (int i = 0; i < many; i++) {
                int behind = begin[i] + yard.fact(row[i], Yard.DAYS);
                for (int day = begin[i]; day < behind; day++) {
                    odds = odds * (100 - chances[day]) / 100;
                }
            }
            return odds;
        }

        int doneBefore(Yard yard, int day) {
            int done = 0;
            for (int i = 0; i < many; i++) {
                if (begin[i] + yard.fact(row[i], Yard.DAYS) <= day) {
                    done++;
                }
            }
            return done;
        }
    }

    /** Readings of lean; with each chimney at most so many. */
    private static final class Plumb {
        private static final int MOST = 10;

        private final int[] years = new int[MOST_CHIMNEYS * MOST];
        private final int[] leans = new int[MOST_CHIMNEYS * MOST];
        private final int[] many = new int[MOST_CHIMNEYS];
        final int[] doubts = new int[MOST_CHIMNEYS];

        void clear() {
            Arrays.fill(many, 0);
            Arrays.fill(doubts, 0);
        }

        boolean add(int chimney, int year, int lean) {
            if (many[chimney] >= MOST) {
                return false;
            }
            int at = chimney * MOST + many[chimney];
            years[at] = year;
            leans[at] = lean;
            many[chimney]++;
            return true;
        }

        int latestYear(int chimney) {
            int latest = 0;
            for (int i = chimney * MOST; i < chimney * MOST + many[chimney]; i++) {
                latest = Math.max(latest, years[i]);
            }
            return latest;
        }

        /**
         * Each two readings bound how steep a line may be; all bounds must leave something,
         * and some bound must be there, or the lean has no ends.
         */
        boolean hasLean(int chimney) {
            int first = chimney * MOST;
            int behind = first + many[chimney];
            int wide = 2 * doubts[chimney];
            boolean bound = false;
            long mostRise = 0;
            long mostYears = 1;
            long leastRise = 0;
            long leastYears = 1;
            for (int i = first; i < behind; i++) {
                for (int j = first; j < behind; j++) {
                    int span = years[j] - years[i];
                    int rise = leans[j] - leans[i];
                    if (span == 0 && rise > wide) {
                        return false;
                    }
                    if (span > 0 && (!bound || (rise + wide) * mostYears < mostRise * span)) {
                        mostRise = rise + wide;
                        mostYears = span;
                    }
                    if (span > 0 && (!bound || (rise - wide) * leastYears > leastRise * span)) {
                        leastRise = rise - wide;
                        leastYears = span;
                    }
                    bound = bound || span > 0;
                }
            }
            return bound && leastRise * mostYears <= mostRise * leastYears;
        }

        int greatest(int chimney, int year) {
            return most(chimney, year, 1);
        }

        /** The least is the greatest of the chimney seen in a mirror. */
        int least(int chimney, int year) {
            return -most(chimney, year, -1);
        }

        /** No line is above any of these, and one that goes through reaches the least of them. */
        private int most(int chimney, int year, int side) {
            int first = chimney * MOST;
            int behind = first + many[chimney];
            int most = VAST;
            for (int near = first; near < behind; near++) {
                if (years[near] == year) {
                    most = Math.min(most, side * leans[near] + doubts[chimney]);
                }
                for (int far = first; far < behind; far++) {
                    if (bounds(years[near] - year, years[far] - year)) {
                        most = Math.min(most, lineAt(chimney, year, side, near, far));
                    }
                }
            }
            return most;
        }

        /** A far reading bounds with a near one if the year is between them or the near one is between. */
        private static boolean bounds(int near, int far) {
            return near < 0 && far > 0 || near > 0 && far > near || near < 0 && far < near;
        }

        /** In the year, cut up: the line over the near reading's upper end and the far one's that lifts it most. */
        private int lineAt(int chimney, int year, int side, int near, int far) {
            int nearYears = years[near] - year;
            int farYears = years[far] - year;
            if (farYears == nearYears) {
                return VAST;
            }
            boolean yearBetween = nearYears < 0 && farYears > 0;
            int nearEnd = side * leans[near] + doubts[chimney];
            int farEnd = side * leans[far] + (yearBetween ? doubts[chimney] : -doubts[chimney]);
            return -Math.floorDiv(farEnd * nearYears - nearEnd * farYears, farYears - nearYears);
        }
    }

    /** What is tried, and the cases that fit all that was told. */
    private static final class Trial {
        static final int MOST_PARTS = 14;
        static final int NOTHING = 0;
        static final int ROD = 1;
        static final int WALL = 2;
        private static final int MOST_CASES = 1 << MOST_PARTS;

        private final int[] cases = new int[MOST_CASES];
        /** Scratch of rods: how many cases that fit have such bits from a part on; and from there up to another. */
        private final int[] from = new int[MOST_CASES];
        private final int[] upTo = new int[MOST_CASES];
        private final int[] byBad = new int[MOST_PARTS + 1];
        private int parts = 0;
        private int good = 0;
        private int bad = 0;
        private boolean asked = false;

        int kind = NOTHING;
        int fitting = 0;
        int askI = NONE;
        int askJ = NONE;
        int rest = 0;

        void begin(int kind, int parts, int good, int bad) {
            this.kind = kind;
            this.parts = parts;
            this.good = good;
            this.bad = bad;
            fitting = 1 << parts;
            for (int i = 0; i < fitting; i++) {
                cases[i] = i;
            }
            asked = false;
        }

        boolean canAsk(int i, int j) {
            if (kind == WALL) {
                return i >= 0 && i < parts;
            }
            return i >= 0 && i < j && j <= parts;
        }

        void keepFitting(int i, int j, int answer) {
            int left = 0;
            for (int at = 0; at < fitting; at++) {
                if (answerOf(cases[at], i, j) == answer) {
                    cases[left] = cases[at];
                    left++;
                }
            }
            fitting = left;
            asked = false;
        }

        private int answerOf(int bits, int i, int j) {
            if (kind == WALL) {
                return (bits & besides(i)) != 0 ? 1 : 0;
            }
            int bads = Integer.bitCount(bits >> i & (1 << j - i) - 1);
            return bads * bad + (j - i - bads) * good;
        }

        /** A course and those beside it. */
        private static int besides(int course) {
            return 7 << course >> 1;
        }

        int inAll(boolean sound) {
            if (fitting == 0) {
                return 0;
            }
            int all = (1 << parts) - 1;
            int flip = sound ? all : 0;
            for (int at = 0; at < fitting; at++) {
                all &= cases[at] ^ flip;
            }
            return all;
        }

        void findQuestion() {
            if (asked) {
                return;
            }
            rest = VAST;
            if (kind == WALL) {
                findCourse();
            } else {
                findClamps();
            }
            asked = true;
        }

        private void findCourse() {
            askJ = NONE;
            for (int course = 0; course < parts; course++) {
                int dull = 0;
                for (int at = 0; at < fitting; at++) {
                    dull += answerOf(cases[at], course, NONE);
                }
                int most = Math.max(dull, fitting - dull);
                if (most < rest) {
                    rest = most;
                    askI = course;
                }
            }
        }

        /** Parts that a question leaves out are folded away, so that all questions cost little more than one. */
        private void findClamps() {
            int size = 1 << parts;
            for (int bits = 0; bits < size; bits++) {
                from[bits] = 0;
            }
            for (int at = 0; at < fitting; at++) {
                from[cases[at]] = 1;
            }
            for (int i = 0; i < parts; i++) {
                askFrom(i);
                for (int bits = 0; bits < size >> i + 1; bits++) {
                    from[bits] = from[2 * bits] + from[2 * bits + 1];
                }
            }
        }

        private void askFrom(int i) {
            System.arraycopy(from, 0, upTo, 0, 1 << parts - i);
            for (int j = parts; j > i; j--) {
                int most = mostAlike(1 << j - i);
                if (most < rest || most == rest && askI == i) {
                    rest = most;
                    askI = i;
                    askJ = j;
                }
                int half = 1 << j - i - 1;
                for (int bits = 0; bits < half; bits++) {
                    upTo[bits] += upTo[bits + half];
                }
            }
        }

        /** Good and bad parts are unlike, so cases answer alike just if as many parts are bad. */
        private int mostAlike(int size) {
            Arrays.fill(byBad, 0);
            int most = 0;
            for (int bits = 0; bits < size; bits++) {
                int bads = Integer.bitCount(bits);
                byBad[bads] += upTo[bits];
                most = Math.max(most, byBad[bads]);
            }
            return most;
        }
    }

    /** The foot of bricks round about, and how what stands on it falls. */
    private static final class Foot {
        static final int BRICKS = 16;
        static final int MOST_CUT = 12;
        static final int ALL = (1 << BRICKS) - 1;
        private static final int ROUND = BRICKS - 1;
        private static final int STANDS = -2;
        private static final int FALLS_BADLY = -3;
        private static final int[] X = {100, 92, 71, 38, 0, -38, -71, -92, -100, -92, -71, -38, 0, 38, 71, 92};
        private static final int[] Y = {0, 38, 71, 92, 100, 92, 71, 38, 0, -38, -71, -92, -100, -92, -71, -38};

        private Foot() {
        }

        private static boolean isInside(int a, int b, int x, int y) {
            return (X[b] - X[a]) * (y - Y[a]) - (Y[b] - Y[a]) * (x - X[a]) > 0;
        }

        static boolean holds(int bricks, int x, int y) {
            int first = NONE;
            int last = NONE;
            int many = 0;
            for (int brick = 0; brick < BRICKS; brick++) {
                if ((bricks >> brick & 1) != 0) {
                    if (last != NONE && !isInside(last, brick, x, y)) {
                        return false;
                    }
                    first = first == NONE ? brick : first;
                    last = brick;
                    many++;
                }
            }
            return many >= 3 && isInside(last, first, x, y);
        }

        /** The bricks without any single one of which all others still hold. */
        static int spare(int x, int y) {
            int spare = 0;
            for (int brick = 0; brick < BRICKS; brick++) {
                if (holds(ALL & ~(1 << brick), x, y)) {
                    spare |= 1 << brick;
                }
            }
            return spare;
        }

        static int fallOf(int k, int n, int x, int y, int spare) {
            for (int i = 0; i < n; i++) {
                if ((spare >> (k + i & ROUND) & 1) == 0) {
                    return NONE;
                }
            }
            for (int i = n; i < ROUND; i++) {
                if (!isInside(k + i & ROUND, k + i + 1 & ROUND, x, y)) {
                    return FALLS_BADLY;
                }
            }
            int a = k + ROUND & ROUND;
            int b = k + n & ROUND;
            return isInside(a, b, x, y) ? STANDS : furthest(Y[b] - Y[a], X[a] - X[b]);
        }

        private static int furthest(int byX, int byY) {
            int furthest = 0;
            for (int brick = 1; brick < BRICKS; brick++) {
                if (X[brick] * byX + Y[brick] * byY > X[furthest] * byX + Y[furthest] * byY) {
                    furthest = brick;
                }
            }
            return furthest;
        }

        static int fewest(int from, int to, int x, int y) {
            int spare = spare(x, y);
            for (int n = 1; n <= MOST_CUT; n++) {
                for (int k = 0; k < BRICKS; k++) {
                    int towards = fallOf(k, n, x, y, spare);
                    if (towards >= 0 && (towards - from & ROUND) <= (to - from & ROUND)) {
                        return BRICKS * n + k;
                    }
                }
            }
            return NONE;
        }
    }

    /** Ropes, who is up, how climbing went: all that an image keeps. */
    private static final class Climbing {
        static final int MEN = 10;
        static final int MASTERS = 5;
        /** It went, or one of six refused it. */
        static final int ENDS = 7;
        private static final int MOST_ROPES = 20;
        private static final int MOST_BACK = 50;

        final int[] lives = new int[MOST_ROPES];
        int ropes = 0;
        /** Of each chimney and day the men, as bits. */
        final int[] menUp = new int[MOST_CHIMNEYS * MOST_DAYS];
        final int[] went = new int[ENDS];
        int rule = 6;
        /** The latest that went, each packed into one number. */
        private final int[] latest = new int[MOST_BACK];
        private int kept = 0;

        /** Ropes and the rule outlive a yard. */
        void clear() {
            Arrays.fill(menUp, 0);
            Arrays.fill(went, 0);
            kept = 0;
        }

        void copy(Climbing other) {
            System.arraycopy(other.lives, 0, lives, 0, MOST_ROPES);
            System.arraycopy(other.menUp, 0, menUp, 0, MOST_CHIMNEYS * MOST_DAYS);
            System.arraycopy(other.went, 0, went, 0, ENDS);
            System.arraycopy(other.latest, 0, latest, 0, MOST_BACK);
            ropes = other.ropes;
            rule = other.rule;
            kept = other.kept;
        }

        int addRope(int life) {
            if (ropes >= MOST_ROPES) {
                return NONE;
            }
            lives[ropes] = life;
            ropes++;
            return ropes - 1;
        }

        boolean isUp(int man, int day) {
            for (int chimney = 0; chimney < MOST_CHIMNEYS; chimney++) {
                if ((menUp[chimney * MOST_DAYS + day] >> man & 1) != 0) {
                    return true;
                }
            }
            return false;
        }

        boolean hasMaster(int chimney, int day) {
            return (menUp[chimney * MOST_DAYS + day] & (1 << MASTERS) - 1) != 0;
        }

        void goUp(int man, int chimney, int rope, int day, int courses) {
            lives[rope] -= courses;
            menUp[chimney * MOST_DAYS + day] |= 1 << man;
            if (kept >= MOST_BACK) {
                System.arraycopy(latest, 1, latest, 0, MOST_BACK - 1);
                kept = MOST_BACK - 1;
            }
            latest[kept] = ((chimney * MOST_DAYS + day) * MOST_ROPES + rope) * MEN + man;
            kept++;
        }

        int takeBack(Yard yard) {
            if (kept <= 0) {
                return NONE;
            }
            kept--;
            int man = latest[kept] % MEN;
            int rope = latest[kept] / MEN % MOST_ROPES;
            int place = latest[kept] / MEN / MOST_ROPES;
            lives[rope] += yard.courses[place / MOST_DAYS];
            menUp[place] &= ~(1 << man);
            went[0]--;
            return man;
        }
    }

    /** Needs of rope and sets of ladders. */
    private static final class Gear {
        static final int MOST_LADDERS = 200;
        private static final int MOST_NEEDS = 10;
        private static final int SETS = 1 << MOST_NEEDS;
        private static final int WIDTH = MOST_LADDERS + 1;

        private final int[] wants = new int[MOST_NEEDS];
        int needs = 0;
        /** Of each set of needs the fewest ropes, and with so many what the last one bears at least. */
        private final int[] fewest = new int[SETS];
        private final int[] lastBears = new int[SETS];
        /** Of each chimney and number of ladders the most courses that chimneys from it on can have. */
        private final int[] mostFrom = new int[(MOST_CHIMNEYS + 1) * WIDTH];

        int addNeed(int much) {
            if (needs >= MOST_NEEDS) {
                return NONE;
            }
            wants[needs] = much;
            needs++;
            return needs;
        }

        int fewestRopes(int life) {
            for (int i = 0; i < needs; i++) {
                if (wants[i] > life) {
                    return NONE;
                }
            }
            fewest[0] = 0;
            lastBears[0] = life;
            for (int set = 1; set < 1 << needs; set++) {
                fewest[set] = MOST_NEEDS + 1;
                lastBears[set] = 0;
                for (int i = 0; i < needs; i++) {
                    if ((set >> i & 1) != 0) {
                        layLast(set, set & ~(1 << i), wants[i], life);
                    }
                }
            }
            return fewest[(1 << needs) - 1];
        }

        private void layLast(int set, int without, int want, int life) {
            boolean fits = lastBears[without] <= life - want;
            int ropes = fits ? fewest[without] : fewest[without] + 1;
            int bears = fits ? lastBears[without] + want : want;
            if (ropes < fewest[set] || ropes == fewest[set] && bears < lastBears[set]) {
                fewest[set] = ropes;
                lastBears[set] = bears;
            }
        }

        /** Tied ones overlap by 2 courses, so each further one brings 2 less than its own. */
        static int laddersFor(int courses, int ladder) {
            int further = ladder - 2;
            if (courses <= ladder || further <= 0) {
                return 1;
            }
            return 1 + (courses - ladder + further - 1) / further;
        }

        int mostOut(Yard yard, int many, int ladder) {
            fillMost(yard, ladder);
            int left = many;
            int set = 0;
            for (int chimney = 0; chimney < yard.chimneys; chimney++) {
                int wanted = laddersFor(yard.courses[chimney], ladder);
                int at = (chimney + 1) * WIDTH + left;
                if (wanted <= left && yard.courses[chimney] + mostFrom[at - wanted] >= mostFrom[at]) {
                    set |= 1 << chimney;
                    left -= wanted;
                }
            }
            return set;
        }

        private void fillMost(Yard yard, int ladder) {
            for (int left = 0; left < WIDTH; left++) {
                mostFrom[yard.chimneys * WIDTH + left] = 0;
            }
            for (int chimney = yard.chimneys - 1; chimney >= 0; chimney--) {
                int wanted = laddersFor(yard.courses[chimney], ladder);
                for (int left = 0; left < WIDTH; left++) {
                    int most = mostFrom[(chimney + 1) * WIDTH + left];
                    if (wanted <= left) {
                        most = Math.max(most, yard.courses[chimney] + mostFrom[(chimney + 1) * WIDTH + left - wanted]);
                    }
                    mostFrom[chimney * WIDTH + left] = most;
                }
            }
        }
    }

    /** Bands and mortar of the chimneys. */
    private static final class Iron {
        private static final int MOST = 8;
        private static final int REACH = 5;

        private final int[] places = new int[MOST_CHIMNEYS * MOST];
        private final int[] years = new int[MOST_CHIMNEYS * MOST];
        private final int[] pulls = new int[MOST_CHIMNEYS * MOST];
        private final int[] rusts = new int[MOST_CHIMNEYS * MOST];
        private final int[] many = new int[MOST_CHIMNEYS];
        final int[] mortars = new int[MOST_CHIMNEYS];
        /** What each course of the chimney and the year that was asked last bears. */
        private final int[] bears = new int[MOST_COURSES];

        void clear() {
            Arrays.fill(many, 0);
            Arrays.fill(mortars, 0);
        }

        int add(int chimney, int course, int year, int pull, int rust) {
            if (many[chimney] >= MOST) {
                return NONE;
            }
            int at = chimney * MOST + many[chimney];
            places[at] = course;
            years[at] = year;
            pulls[at] = pull;
            rusts[at] = rust;
            many[chimney]++;
            return many[chimney];
        }

        void fillBears(int chimney, int year, int courses) {
            for (int course = 0; course < courses; course++) {
                bears[course] = mortars[chimney];
            }
            for (int at = chimney * MOST; at < chimney * MOST + many[chimney]; at++) {
                addAround(places[at], held(at, year), courses);
            }
        }

        private int held(int at, int year) {
            return year < years[at] ? 0 : Math.max(0, pulls[at] - rusts[at] * (year - years[at]));
        }

        private void addAround(int place, int much, int courses) {
            int top = Math.min(courses - 1, place + REACH);
            for (int course = Math.max(0, place - REACH); course <= top; course++) {
                bears[course] += much;
            }
        }

        private int wanting(int course, int courses, int wind) {
            return Math.max(0, wind * (courses - 1 - course) - bears[course]);
        }

        int weakOnes(int courses, int wind) {
            int weak = 0;
            for (int course = 0; course < courses; course++) {
                if (wanting(course, courses, wind) > 0) {
                    weak++;
                }
            }
            return weak;
        }

        int leastWeak(int courses, int wind) {
            for (int course = 0; course < courses; course++) {
                if (wanting(course, courses, wind) > 0) {
                    return course;
                }
            }
            return NONE;
        }

        int mostWanting(int courses, int wind) {
            int most = 0;
            for (int course = 0; course < courses; course++) {
                most = Math.max(most, wanting(course, courses, wind));
            }
            return most;
        }

        /** The least weak course needs its bands anyway; as high as they reach it they help others most. */
        int fewestNew(int courses, int wind, int pull) {
            int fewest = 0;
            if (pull <= 0) {
                return fewest;
            }
            for (int course = 0; course < courses; course++) {
                int wanted = (wanting(course, courses, wind) + pull - 1) / pull;
                if (wanted > 0) {
                    addAround(Math.min(courses - 1, course + REACH), wanted * pull, courses);
                    fewest += wanted;
                }
            }
            return fewest;
        }
    }

    /** Risks, works and the order that is kept. Sets are bits over the chimneys that are to be ordered. */
    private static final class Order {
        static final int MOST = 9;
        private static final int SETS = 1 << MOST;

        final int[] risks = new int[MOST_CHIMNEYS];
        final int[] works = new int[MOST_CHIMNEYS];
        final int[] row = new int[MOST];
        int many = 0;
        private final int[] asked = new int[MOST];
        private int askedMany = 0;
        /** Of each set done and the last one in it: what all that is not done costs at least. */
        private final int[] costs = new int[SETS * MOST];
        /** Of each set done: the risk of all that is not done. */
        private final int[] open = new int[SETS];

        Order() {
            clear();
        }

        void clear() {
            Arrays.fill(risks, 0);
            Arrays.fill(works, 1);
            many = 0;
        }

        int make(Yard yard, int chimneys) {
            listAsked(chimneys);
            int all = (1 << askedMany) - 1;
            for (int done = all; done > 0; done--) {
                open[done] = riskWithout(done);
                for (int last = 0; last < askedMany; last++) {
                    if ((done >> last & 1) != 0) {
                        costs[done * MOST + last] = done == all ? 0 : leastCost(yard, done, last);
                    }
                }
            }
            open[0] = riskWithout(0);
            int cost = leastCost(yard, 0, NONE);
            fillRow(yard);
            return cost;
        }

        private void listAsked(int chimneys) {
            askedMany = 0;
            for (int chimney = 0; chimney < MOST_CHIMNEYS && askedMany < MOST; chimney++) {
                if ((chimneys >> chimney & 1) != 0) {
                    asked[askedMany] = chimney;
                    askedMany++;
                }
            }
        }

        private int riskWithout(int done) {
            int risk = 0;
            for (int i = 0; i < askedMany; i++) {
                if ((done >> i & 1) == 0) {
                    risk += risks[asked[i]];
                }
            }
            return risk;
        }

        /** Each day that goes by costs the risks of all that isn't done yet, so a cost needs no clock. */
        private int costOf(Yard yard, int done, int last, int next) {
            int way = last == NONE ? 0 : yard.travel(asked[last], asked[next]);
            return (way + works[asked[next]]) * open[done] + costs[(done | 1 << next) * MOST + next];
        }

        private int leastCost(Yard yard, int done, int last) {
            int least = VAST;
            for (int next = 0; next < askedMany; next++) {
                if ((done >> next & 1) == 0) {
                    least = Math.min(least, costOf(yard, done, last, next));
                }
            }
            return least;
        }

        private void fillRow(Yard yard) {
            many = 0;
            int done = 0;
            int last = NONE;
            for (int step = 0; step < askedMany; step++) {
                last = leastNext(yard, done, last);
                if (last == NONE) {
                    return;
                }
                row[many] = asked[last];
                many++;
                done |= 1 << last;
            }
        }

        private int leastNext(Yard yard, int done, int last) {
            int least = leastCost(yard, done, last);
            for (int next = 0; next < askedMany; next++) {
                if ((done >> next & 1) == 0 && costOf(yard, done, last, next) == least) {
                    return next;
                }
            }
            return NONE;
        }
    }

    /** Owners with their means, their parts in chimneys, and what they paid of the latest bill. */
    private static final class Owners {
        static final int MANY = 6;
        /** A round in which somebody pays takes one at least, so no bill has so many. */
        private static final int MOST_ROUNDS = 1000000;

        final int[] means = new int[MANY];
        final int[] parts = new int[MOST_CHIMNEYS * MANY];
        final int[] payments = new int[MANY];

        void clearParts() {
            Arrays.fill(parts, 0);
        }

        int settle(int chimney, int much) {
            Arrays.fill(payments, 0);
            int wanting = much;
            for (int round = 0; round < MOST_ROUNDS; round++) {
                int got = payRound(chimney, wanting);
                if (got == 0) {
                    break;
                }
                wanting -= got;
            }
            return payOnes(chimney, wanting);
        }

        private int partOf(int chimney, int owner) {
            return means[owner] > 0 ? parts[chimney * MANY + owner] : 0;
        }

        private int payRound(int chimney, int wanting) {
            int together = 0;
            for (int owner = 0; owner < MANY; owner++) {
                together += partOf(chimney, owner);
            }
            if (together <= 0) {
                return 0;
            }
            int got = 0;
            for (int owner = 0; owner < MANY; owner++) {
                int share = Math.min(means[owner], wanting * partOf(chimney, owner) / together);
                pay(owner, share);
                got += share;
            }
            return got;
        }

        /** Less is wanting here than there are owners to pay, so each is asked once at most. */
        private int payOnes(int chimney, int wanting) {
            int left = wanting;
            for (int owner = 0; owner < MANY && left > 0; owner++) {
                if (partOf(chimney, owner) > 0) {
                    pay(owner, 1);
                    left--;
                }
            }
            return left;
        }

        private void pay(int owner, int much) {
            means[owner] -= much;
            payments[owner] += much;
        }
    }
}
