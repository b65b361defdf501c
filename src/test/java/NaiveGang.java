import java.util.ArrayList;
import java.util.Arrays;
import java.util.List;
import java.util.NoSuchElementException;
import java.util.regex.Matcher;
import java.util.regex.Pattern;

/**
 * The document once more, word by word and by trying everything out: slow, with the whole library,
 * and sharing no line with the class. SameAnswersTest asks both the same.
 */
public final class NaiveGang {
    private static final int NONE = -1;

    // ---- the tape and the yard

    private record Letter(int chimney, int days, int wind, int from, int till, int price) {
    }

    private record Nest(int chimney, int from, int till) {
    }

    private record Road(int a, int b, int days) {
    }

    private record Token(String text, int at) {
    }

    private static final class Told {
        final List<Integer> courses = new ArrayList<>();
        final List<Integer> winds = new ArrayList<>();
        final List<Letter> letters = new ArrayList<>();
        final List<Nest> nests = new ArrayList<>();
        final List<Road> roads = new ArrayList<>();
    }

    private String tape = "";
    private Told yard = new Told();
    private int faultPlace = NONE;

    public int feed(int a, int b, int c, int d, int e) {
        if (tape.length() + 20 > 600) {
            return NONE;
        }
        for (int number : new int[] {a, b, c, d, e}) {
            tape += (char) (number >>> 24);
            tape += (char) (number >>> 16 & 0xff);
            tape += (char) (number >>> 8 & 0xff);
            tape += (char) (number & 0xff);
        }
        return tape.length();
    }

    /** C a chimney, O another one, D a day, T a day not ahead of the one told, W a wind, S a day's wind. */
    private static final String[] CLAUSES = {
        "chimney 1-200 ;",
        "winds S S* ;",
        "letter C days 1-9 wind 0-12 from D till T price 0-9999 ;",
        "road C O moves 0-9 ;",
        "nest C from D till T ;",
    };

    public int yard(int n) {
        if (n < 0 || n > tape.length()) {
            throw new IllegalArgumentException();
        }
        String text = tape.substring(0, n);
        tape = "";
        Told next = new Told();
        int fault = parse(text, next);
        if (fault != 0) {
            return fault;
        }
        faultPlace = NONE;
        yard = next;
        plan = null;
        gangs = null;
        order = null;
        readings.clear();
        bands.clear();
        doubts = new int[12];
        mortars = new int[12];
        risks = new int[12];
        works = new int[12];
        Arrays.fill(works, 1);
        parts = new int[12][6];
        now.ups.clear();
        now.went = new int[7];
        now.canBack.clear();
        image = null;
        return 0;
    }

    private int parse(String text, Told next) {
        List<Token> tokens = new ArrayList<>();
        Matcher matcher = Pattern.compile("[a-z]+|[0-9]+|[^ \n]", Pattern.DOTALL).matcher(text);
        while (matcher.find()) {
            tokens.add(new Token(matcher.group(), matcher.start()));
        }
        int at = 0;
        while (at < tokens.size()) {
            Token first = tokens.get(at);
            String clause = null;
            for (String c : CLAUSES) {
                if (c.split(" ")[0].equals(first.text)) {
                    clause = c;
                }
            }
            if (clause == null) {
                return faulty(1, first.at);
            }
            if (first.text.equals("chimney") && next.courses.size() == 12
                    || first.text.equals("letter") && next.letters.size() == 8
                    || first.text.equals("nest") && next.nests.size() == 12) {
                return faulty(2, first.at);
            }
            at++;
            List<Integer> numbers = new ArrayList<>();
            String[] items = clause.split(" ");
            int item = 1;
            while (item < items.length) {
                Token token = at < tokens.size() ? tokens.get(at) : null;
                int place = token == null ? text.length() : token.at;
                boolean number = token != null && token.text.matches("[0-9]+");
                String wanted = items[item];
                if (wanted.equals("S*")) {
                    if (!number) {
                        item++;
                        continue;
                    }
                    wanted = "S";
                } else {
                    item++;
                }
                if (wanted.matches("[a-z;]+")) {
                    if (token == null || !token.text.equals(wanted)) {
                        return faulty(1, place);
                    }
                } else {
                    if (!number) {
                        return faulty(1, place);
                    }
                    int fault = numberFault(wanted, token.text, numbers, next);
                    if (fault != 0) {
                        return faulty(fault, place);
                    }
                    int value = Integer.parseInt(token.text);
                    numbers.add(value);
                    if (wanted.equals("S")) {
                        next.winds.add(value);
                    }
                }
                at++;
            }
            add(first.text, numbers, next);
        }
        return 0;
    }

    private int faulty(int fault, int place) {
        faultPlace = place;
        return fault;
    }

    private static int numberFault(String wanted, String digits, List<Integer> ahead, Told next) {
        if (digits.length() > 4) {
            return 2;
        }
        int value = Integer.parseInt(digits);
        switch (wanted) {
            case "C":
                return value >= next.courses.size() ? 3 : 0;
            case "O":
                return value >= next.courses.size() ? 3 : value == ahead.get(ahead.size() - 1) ? 5 : 0;
            case "D":
                return value > 29 ? 2 : 0;
            case "T":
                return value > 29 ? 2 : value < ahead.get(ahead.size() - 1) ? 4 : 0;
            case "S":
                return value > 12 || next.winds.size() == 30 ? 2 : 0;
            default:
                String[] ends = wanted.split("-");
                return value < Integer.parseInt(ends[0]) || value > Integer.parseInt(ends[1]) ? 2 : 0;
        }
    }

    private static void add(String word, List<Integer> n, Told next) {
        switch (word) {
            case "chimney":
                next.courses.add(n.get(0));
                break;
            case "letter":
                next.letters.add(new Letter(n.get(0), n.get(1), n.get(2), n.get(3), n.get(4), n.get(5)));
                break;
            case "road":
                next.roads.add(new Road(n.get(0), n.get(1), n.get(2)));
                break;
            case "nest":
                next.nests.add(new Nest(n.get(0), n.get(1), n.get(2)));
                break;
            default:
                break;
        }
    }

    public int fault() {
        return faultPlace;
    }

    public int count(int what) {
        int[] counts = {yard.courses.size(), yard.letters.size(), yard.winds.size(), yard.nests.size(),
            now.ropes.size(), tape.length(), needs.size(), now.rule};
        if (what < 0 || what > 7) {
            throw new NoSuchElementException();
        }
        return counts[what];
    }

    public int letter(int letter, int what) {
        if (letter < 0 || letter >= yard.letters.size() || what < 0 || what > 5) {
            throw new NoSuchElementException();
        }
        Letter l = yard.letters.get(letter);
        return new int[] {l.chimney, l.days, l.wind, l.from, l.till, l.price}[what];
    }

    private void mustBe(int chimney) {
        if (chimney < 0 || chimney >= yard.courses.size()) {
            throw new NoSuchElementException();
        }
    }

    private static void mustBeOneOf(int what, int many) {
        if (what < 0 || what >= many) {
            throw new NoSuchElementException();
        }
    }

    private static void must(boolean so) {
        if (!so) {
            throw new IllegalArgumentException();
        }
    }

    public int road(int a, int b) {
        mustBe(a);
        mustBe(b);
        if (a == b) {
            return 0;
        }
        int days = 1;
        for (Road road : yard.roads) {
            if (road.a == a && road.b == b || road.a == b && road.b == a) {
                days = road.days;
            }
        }
        return days;
    }

    private int windOf(int day) {
        return day < yard.winds.size() ? yard.winds.get(day) : 13;
    }

    private boolean nestAt(int chimney, int day) {
        for (Nest nest : yard.nests) {
            if (nest.chimney == chimney && nest.from <= day && day <= nest.till) {
                return true;
            }
        }
        return false;
    }

    public int begins(int letter, int day) {
        letter(letter, 0);
        must(day >= 0);
        Letter l = yard.letters.get(letter);
        for (int begin = day; begin <= 29; begin++) {
            boolean can = true;
            for (int d = begin; d < begin + l.days; d++) {
                can = can && d >= l.from && d <= l.till && windOf(d) <= l.wind && !nestAt(l.chimney, d);
            }
            if (can) {
                return begin;
            }
        }
        return NONE;
    }

    // ---- the plan: every row is tried

    private List<int[]> plan = null;
    private int bestPrice;
    private int bestEnd;

    public int plan() {
        gangs = null;
        plan = new ArrayList<>();
        bestPrice = 0;
        bestEnd = NONE;
        tryRows(new ArrayList<>(), 0, NONE);
        return bestPrice;
    }

    /** Rows come in their own order, so of like ones the first that came stays. */
    private void tryRows(List<int[]> row, int price, int end) {
        if (price > bestPrice || price == bestPrice && end < bestEnd) {
            bestPrice = price;
            bestEnd = end;
            plan = new ArrayList<>(row);
        }
        for (int next = 0; next < yard.letters.size(); next++) {
            boolean taken = false;
            for (int[] step : row) {
                taken = taken || step[0] == next;
            }
            if (taken) {
                continue;
            }
            Letter l = yard.letters.get(next);
            int from = row.isEmpty() ? 0 : end + 1 + road(yard.letters.get(row.get(row.size() - 1)[0]).chimney, l.chimney);
            int begin = begins(next, from);
            if (begin != NONE) {
                row.add(new int[] {next, begin});
                tryRows(row, price + l.price, begin + l.days - 1);
                row.remove(row.size() - 1);
            }
        }
    }

    public int planned(int i, int what) {
        mustBeOneOf(what, 2);
        if (plan == null || i < NONE || i >= plan.size()) {
            throw new NoSuchElementException();
        }
        if (i >= 0) {
            return plan.get(i)[what];
        }
        if (what == 0) {
            return plan.size();
        }
        int last = NONE;
        for (int[] step : plan) {
            last = Math.max(last, step[1] + yard.letters.get(step[0]).days - 1);
        }
        return last;
    }

    private int[] gangs = null;

    public int even(int m) {
        if (plan == null || m < 2 || m > 4) {
            return NONE;
        }
        int rows = (int) Math.pow(m, plan.size());
        int least = Integer.MAX_VALUE;
        for (int code = 0; code < rows; code++) {
            int[] row = new int[plan.size()];
            int left = code;
            for (int i = plan.size() - 1; i >= 0; i--) {
                row[i] = left % m;
                left /= m;
            }
            int[] loads = new int[m];
            for (int i = 0; i < row.length; i++) {
                Letter l = yard.letters.get(plan.get(i)[0]);
                loads[row[i]] += l.days * yard.courses.get(l.chimney);
            }
            int greatest = Arrays.stream(loads).max().getAsInt();
            if (greatest < least) {
                least = greatest;
                gangs = row;
            }
        }
        return least;
    }

    public int gang(int i) {
        if (gangs == null || i < 0 || i >= gangs.length) {
            throw new NoSuchElementException();
        }
        return gangs[i];
    }

    private final int[] storms = new int[30];

    public boolean storm(int day, int chance) {
        if (day < 0 || day > 29 || chance < 0 || chance > 100) {
            return false;
        }
        storms[day] = chance;
        return true;
    }

    public int odds(int what) {
        mustBeOneOf(what, 102);
        if (plan == null) {
            return NONE;
        }
        if (what == 0) {
            int odds = 1000000;
            for (int[] step : plan) {
                for (int d = 0; d < yard.letters.get(step[0]).days; d++) {
                    odds = odds * (100 - storms[step[1] + d]) / 100;
                }
            }
            return odds;
        }
        int done = 0;
        for (int[] step : plan) {
            boolean ahead = true;
            for (int day = 0; day < step[1] + yard.letters.get(step[0]).days; day++) {
                ahead = ahead && storms[day] <= what - 1;
            }
            done += ahead ? 1 : 0;
        }
        return done;
    }

    // ---- plumb: every line over two ends of readings

    private record Reading(int chimney, int year, int lean) {
    }

    private final List<Reading> readings = new ArrayList<>();
    private int[] doubts = new int[12];

    private List<Reading> readingsOf(int chimney) {
        List<Reading> its = new ArrayList<>();
        for (Reading reading : readings) {
            if (reading.chimney == chimney) {
                its.add(reading);
            }
        }
        return its;
    }

    public boolean plumb(int chimney, int year, int lean) {
        mustBe(chimney);
        if (year < 0 || year > 300 || lean < -3000 || lean > 3000 || readingsOf(chimney).size() == 10) {
            return false;
        }
        readings.add(new Reading(chimney, year, lean));
        return true;
    }

    public boolean doubt(int chimney, int doubt) {
        mustBe(chimney);
        if (doubt < 0 || doubt > 500) {
            return false;
        }
        doubts[chimney] = doubt;
        return true;
    }

    /** The least cut down and the greatest cut up over all lines that touch two ends; null if none goes through. */
    private int[] ends(int chimney, int year) {
        List<Reading> its = readingsOf(chimney);
        int doubt = doubts[chimney];
        int[] ends = null;
        for (Reading a : its) {
            for (Reading b : its) {
                for (int side = 0; side < 4 && b.year > a.year; side++) {
                    int up = a.lean + (side % 2 == 0 ? doubt : -doubt);
                    int vp = b.lean + (side / 2 == 0 ? doubt : -doubt);
                    int span = b.year - a.year;
                    boolean through = true;
                    for (Reading c : its) {
                        long there = (long) up * span + (long) (vp - up) * (c.year - a.year);
                        through = through && Math.abs(there - (long) c.lean * span) <= (long) doubt * span;
                    }
                    if (through) {
                        long there = (long) up * span + (long) (vp - up) * (year - a.year);
                        int down = (int) Math.floorDiv(there, (long) span);
                        int cutUp = (int) -Math.floorDiv(-there, (long) span);
                        ends = ends == null ? new int[] {down, cutUp}
                            : new int[] {Math.min(down, ends[0]), Math.max(cutUp, ends[1])};
                    }
                }
            }
        }
        return ends;
    }

    public int lean(int chimney, int year, int what) {
        mustBe(chimney);
        mustBeOneOf(what, 2);
        must(year >= 0 && year <= 500);
        int[] ends = ends(chimney, year);
        must(ends != null);
        return ends[what];
    }

    public int limit(int chimney, int limit, int what) {
        mustBe(chimney);
        mustBeOneOf(what, 2);
        int latest = 0;
        for (Reading reading : readingsOf(chimney)) {
            latest = Math.max(latest, reading.year);
        }
        for (int year = latest; year <= 500; year++) {
            int[] ends = ends(chimney, year);
            if (ends == null) {
                return NONE;
            }
            if (ends[1 - what] >= limit) {
                return year;
            }
        }
        return NONE;
    }

    // ---- trials: every case against all that was told

    private int trialKind = 0;
    private int n;
    private int good;
    private int bad;
    private final List<int[]> answers = new ArrayList<>();

    public boolean rod(int n, int good, int bad) {
        if (n < 2 || n > 14 || good < 0 || good > 99 || bad < 0 || bad > 99 || good == bad) {
            return false;
        }
        trialKind = 1;
        this.n = n;
        this.good = good;
        this.bad = bad;
        answers.clear();
        return true;
    }

    public boolean wall(int n) {
        if (n < 2 || n > 14) {
            return false;
        }
        trialKind = 2;
        this.n = n;
        answers.clear();
        return true;
    }

    private int answer(int bits, int i, int j) {
        if (trialKind == 2) {
            for (int course = i - 1; course <= i + 1; course++) {
                if (course >= 0 && course < n && (bits >> course & 1) == 1) {
                    return 1;
                }
            }
            return 0;
        }
        int ohms = 0;
        for (int part = i; part < j; part++) {
            ohms += (bits >> part & 1) == 1 ? bad : good;
        }
        return ohms;
    }

    private List<Integer> fitting() {
        List<Integer> fit = new ArrayList<>();
        for (int bits = 0; bits < 1 << n; bits++) {
            boolean fits = true;
            for (int[] told : answers) {
                fits = fits && answer(bits, told[0], told[1]) == told[2];
            }
            if (fits) {
                fit.add(bits);
            }
        }
        return fit;
    }

    public int tell(int i, int j, int answer) {
        if (trialKind == 0) {
            return NONE;
        }
        must(trialKind == 2 ? i >= 0 && i < n : i >= 0 && j <= n && i < j);
        answers.add(new int[] {i, j, answer});
        return fitting().size();
    }

    public int sure(int what) {
        mustBeOneOf(what, 3);
        must(trialKind != 0);
        List<Integer> fit = fitting();
        if (what == 2) {
            return fit.size();
        }
        int sure = 0;
        for (int bit = 0; bit < n && !fit.isEmpty(); bit++) {
            boolean all = true;
            for (int bits : fit) {
                all = all && (bits >> bit & 1) == 1 - what;
            }
            sure |= all ? 1 << bit : 0;
        }
        return sure;
    }

    public int next(int what) {
        mustBeOneOf(what, 3);
        must(trialKind != 0);
        List<Integer> fit = fitting();
        must(!fit.isEmpty());
        int[] best = null;
        for (int i = 0; i < n; i++) {
            for (int j = trialKind == 2 ? n : i + 1; j <= n; j++) {
                int[] with = new int[1400];
                for (int bits : fit) {
                    with[answer(bits, i, j)]++;
                }
                int rest = Arrays.stream(with).max().getAsInt();
                if (best == null || rest < best[2]) {
                    best = new int[] {i, trialKind == 2 ? NONE : j, rest};
                }
            }
        }
        return best[what];
    }

    // ---- felling

    private static int[] brick(int k) {
        if (k < 4) {
            return new int[][] {{100, 0}, {92, 38}, {71, 71}, {38, 92}}[k];
        }
        int[] before = brick(k - 4);
        return new int[] {-before[1], before[0]};
    }

    private static boolean inside(int a, int b, int x, int y) {
        int[] p = brick(a);
        int[] q = brick(b);
        return (q[0] - p[0]) * (y - p[1]) - (q[1] - p[1]) * (x - p[0]) > 0;
    }

    public boolean stands(int bricks, int x, int y) {
        must(Math.abs((long) x) <= 95 && Math.abs((long) y) <= 95);
        List<Integer> on = new ArrayList<>();
        for (int k = 0; k < 16; k++) {
            if ((bricks >> k & 1) == 1) {
                on.add(k);
            }
        }
        if (on.size() < 3) {
            return false;
        }
        for (int i = 0; i < on.size(); i++) {
            if (!inside(on.get(i), on.get((i + 1) % on.size()), x, y)) {
                return false;
            }
        }
        return true;
    }

    public int cut(int k, int n, int x, int y) {
        must(k >= 0 && k < 16 && n >= 1 && n <= 12);
        stands(0, x, y);
        List<Integer> left = new ArrayList<>();
        for (int brick = 0; brick < 16; brick++) {
            left.add(brick);
        }
        for (int i = 0; i < n; i++) {
            int brick = (k + i) % 16;
            if (!stands(0xffff - (1 << brick), x, y)) {
                return NONE;
            }
            left.remove(Integer.valueOf(brick));
        }
        int a = (k + 15) % 16;
        int b = (k + n) % 16;
        for (int i = 0; i < left.size(); i++) {
            int one = left.get(i);
            int other = left.get((i + 1) % left.size());
            if (one != a && !inside(one, other, x, y)) {
                return -3;
            }
        }
        if (inside(a, b, x, y)) {
            return -2;
        }
        int byX = brick(b)[1] - brick(a)[1];
        int byY = brick(a)[0] - brick(b)[0];
        int best = 0;
        for (int brick = 0; brick < 16; brick++) {
            if (brick(brick)[0] * byX + brick(brick)[1] * byY > brick(best)[0] * byX + brick(best)[1] * byY) {
                best = brick;
            }
        }
        return best;
    }

    public int fell(int from, int to, int x, int y) {
        must(from >= 0 && from < 16 && to >= 0 && to < 16);
        stands(0, x, y);
        List<Integer> wanted = new ArrayList<>();
        for (int brick = from; brick != to; brick = (brick + 1) % 16) {
            wanted.add(brick);
        }
        wanted.add(to);
        for (int n = 1; n <= 12; n++) {
            for (int k = 0; k < 16; k++) {
                if (wanted.contains(cut(k, n, x, y))) {
                    return 16 * n + k;
                }
            }
        }
        return NONE;
    }

    // ---- ropes and climbing

    private record Up(int man, int chimney, int rope, int day) {
    }

    private static final class State {
        final List<Integer> ropes = new ArrayList<>();
        final List<Up> ups = new ArrayList<>();
        int[] went = new int[7];
        int rule = 6;
        final List<Up> canBack = new ArrayList<>();

        State copy() {
            State copy = new State();
            copy.ropes.addAll(ropes);
            copy.ups.addAll(ups);
            copy.went = went.clone();
            copy.rule = rule;
            copy.canBack.addAll(canBack);
            return copy;
        }
    }

    private State now = new State();
    private State image = null;
    private final List<Integer> needs = new ArrayList<>();

    public int rope(int life) {
        if (life < 1 || life > 9999 || now.ropes.size() == 20) {
            return NONE;
        }
        now.ropes.add(life);
        return now.ropes.size() - 1;
    }

    public int life(int rope) {
        mustBeOneOf(rope, now.ropes.size());
        return now.ropes.get(rope);
    }

    public int need(int much) {
        if (much < 1 || much > 9999 || needs.size() == 10) {
            return NONE;
        }
        needs.add(much);
        return needs.size();
    }

    public int ropes(int life) {
        int fewest = 99;
        boolean can = true;
        for (int need : needs) {
            can = can && need <= life;
        }
        if (can) {
            fewest = layNeeds(0, new ArrayList<>(), life, 99);
        }
        needs.clear();
        return can ? fewest : NONE;
    }

    private int layNeeds(int i, List<Integer> bears, int life, int fewest) {
        if (i == needs.size()) {
            return Math.min(fewest, bears.size());
        }
        int best = fewest;
        for (int rope = 0; rope <= bears.size(); rope++) {
            if (rope == bears.size()) {
                bears.add(0);
            }
            if (bears.get(rope) <= life - needs.get(i)) {
                bears.set(rope, bears.get(rope) + needs.get(i));
                best = layNeeds(i + 1, bears, life, best);
                bears.set(rope, bears.get(rope) - needs.get(i));
            }
            if (bears.get(rope) == 0) {
                bears.remove(rope);
                break;
            }
        }
        return best;
    }

    public boolean rule(int wind) {
        if (wind < 0 || wind > 13) {
            return false;
        }
        now.rule = wind;
        return true;
    }

    public int climb(int man, int chimney, int rope, int day) {
        int refused = refused(man, chimney, rope, day);
        now.went[refused]++;
        if (refused == 0) {
            Up up = new Up(man, chimney, rope, day);
            now.ups.add(up);
            now.canBack.add(up);
            if (now.canBack.size() > 50) {
                now.canBack.remove(0);
            }
            now.ropes.set(rope, now.ropes.get(rope) - yard.courses.get(chimney));
        }
        return refused;
    }

    private int refused(int man, int chimney, int rope, int day) {
        if (man < 0 || man > 9 || chimney < 0 || chimney >= yard.courses.size() || rope < 0
                || rope >= now.ropes.size() || day < 0 || day > 29) {
            return 1;
        }
        if (windOf(day) > now.rule) {
            return 2;
        }
        if (nestAt(chimney, day)) {
            return 3;
        }
        boolean master = false;
        for (Up up : now.ups) {
            if (up.man == man && up.day == day) {
                return 4;
            }
            master = master || up.man <= 4 && up.day == day && up.chimney == chimney;
        }
        if (man > 4 && !master) {
            return 5;
        }
        return now.ropes.get(rope) < yard.courses.get(chimney) ? 6 : 0;
    }

    public int climbs(int what) {
        mustBeOneOf(what, 7);
        return now.went[what];
    }

    public int up(int chimney, int day) {
        mustBe(chimney);
        mustBeOneOf(day, 30);
        int bits = 0;
        for (Up up : now.ups) {
            if (up.chimney == chimney && up.day == day) {
                bits |= 1 << up.man;
            }
        }
        return bits;
    }

    public int back() {
        if (now.canBack.isEmpty()) {
            return NONE;
        }
        Up up = now.canBack.remove(now.canBack.size() - 1);
        now.ups.remove(up);
        now.ropes.set(up.rope, now.ropes.get(up.rope) + yard.courses.get(up.chimney));
        now.went[0]--;
        return up.man;
    }

    public void image() {
        image = now.copy();
    }

    public boolean restore() {
        if (image == null) {
            return false;
        }
        now = image.copy();
        return true;
    }

    // ---- bands

    private record Band(int chimney, int course, int year, int pull, int rust) {
        int holds(int in) {
            return in < year ? 0 : Math.max(0, pull - rust * (in - year));
        }
    }

    private final List<Band> bands = new ArrayList<>();
    private int[] mortars = new int[12];

    public int band(int chimney, int course, int year, int pull, int rust) {
        mustBe(chimney);
        int many = 0;
        for (Band band : bands) {
            many += band.chimney == chimney ? 1 : 0;
        }
        if (many == 8 || course < 0 || course >= yard.courses.get(chimney) || year < 0 || year > 300 || pull < 1
                || pull > 9999 || rust < 0 || rust > 999) {
            return NONE;
        }
        bands.add(new Band(chimney, course, year, pull, rust));
        return many + 1;
    }

    public boolean mortar(int chimney, int much) {
        mustBe(chimney);
        if (much < 0 || much > 9999) {
            return false;
        }
        mortars[chimney] = much;
        return true;
    }

    private List<Integer> wanting(int chimney, int year, int wind, List<Band> all) {
        List<Integer> wanting = new ArrayList<>();
        int courses = yard.courses.get(chimney);
        for (int course = 0; course < courses; course++) {
            int bears = mortars[chimney];
            for (Band band : all) {
                if (band.chimney == chimney && Math.abs(band.course - course) <= 5) {
                    bears += band.holds(year);
                }
            }
            wanting.add(wind * (courses - course - 1) - bears);
        }
        return wanting;
    }

    public int weak(int chimney, int year, int wind, int what) {
        mustBe(chimney);
        mustBeOneOf(what, 3);
        must(year >= 0 && year <= 500 && wind >= 0 && wind <= 13);
        List<Integer> wanting = wanting(chimney, year, wind, bands);
        int many = 0;
        int least = NONE;
        int most = 0;
        for (int course = wanting.size() - 1; course >= 0; course--) {
            if (wanting.get(course) > 0) {
                many++;
                least = course;
                most = Math.max(most, wanting.get(course));
            }
        }
        return new int[] {many, least, most}[what];
    }

    public int lasts(int chimney, int year, int wind) {
        mustBe(chimney);
        must(year >= 0 && year <= 500 && wind >= 0 && wind <= 13);
        for (int in = year; in <= year + 100; in++) {
            for (int wanting : wanting(chimney, in, wind, bands)) {
                if (wanting > 0) {
                    return in;
                }
            }
        }
        return NONE;
    }

    /** Tried out for few new bands; where more are needed, laid from the top down, as a second way to the same. */
    public int bands(int chimney, int year, int wind, int pull) {
        mustBe(chimney);
        must(year >= 0 && year <= 500 && wind >= 0 && wind <= 13 && pull >= 1 && pull <= 9999);
        for (int many = 0; many <= 2 && yard.courses.get(chimney) <= 60; many++) {
            if (holdsWith(chimney, year, wind, pull, many, 0, new ArrayList<>(bands))) {
                return many;
            }
        }
        return fromTheTop(chimney, year, wind, pull);
    }

    private boolean holdsWith(int chimney, int year, int wind, int pull, int many, int from, List<Band> all) {
        if (many == 0) {
            for (int wanting : wanting(chimney, year, wind, all)) {
                if (wanting > 0) {
                    return false;
                }
            }
            return true;
        }
        for (int course = from; course < yard.courses.get(chimney); course++) {
            all.add(new Band(chimney, course, year, pull, 0));
            boolean holds = holdsWith(chimney, year, wind, pull, many - 1, course, all);
            all.remove(all.size() - 1);
            if (holds) {
                return true;
            }
        }
        return false;
    }

    private int fromTheTop(int chimney, int year, int wind, int pull) {
        List<Integer> wanting = wanting(chimney, year, wind, bands);
        int many = 0;
        for (int course = wanting.size() - 1; course >= 0; course--) {
            while (wanting.get(course) > 0) {
                int place = Math.max(0, course - 5);
                for (int c = Math.max(0, place - 5); c <= Math.min(wanting.size() - 1, place + 5); c++) {
                    wanting.set(c, wanting.get(c) - pull);
                }
                many++;
            }
        }
        return many;
    }

    // ---- orders: every row

    private int[] risks = new int[12];
    private int[] works = new int[] {1, 1, 1, 1, 1, 1, 1, 1, 1, 1, 1, 1};
    private List<Integer> order = null;
    private List<Integer> bestOrder;
    private int bestCost;

    public boolean risk(int chimney, int risk, int work) {
        mustBe(chimney);
        if (risk < 0 || risk > 999 || work < 1 || work > 99) {
            return false;
        }
        risks[chimney] = risk;
        works[chimney] = work;
        return true;
    }

    public int order(int chimneys) {
        List<Integer> all = new ArrayList<>();
        for (int bit = 0; bit < 32; bit++) {
            if ((chimneys >> bit & 1) == 1) {
                if (bit >= yard.courses.size()) {
                    return NONE;
                }
                all.add(bit);
            }
        }
        if (all.isEmpty() || all.size() > 9) {
            return NONE;
        }
        bestCost = Integer.MAX_VALUE;
        tryOrders(all, new ArrayList<>(), 0, 0);
        order = bestOrder;
        return bestCost;
    }

    private void tryOrders(List<Integer> all, List<Integer> row, int days, int cost) {
        if (cost > bestCost) {
            return;
        }
        if (row.size() == all.size() && cost < bestCost) {
            bestCost = cost;
            bestOrder = new ArrayList<>(row);
        }
        for (int chimney : all) {
            if (!row.contains(chimney)) {
                int way = row.isEmpty() ? 0 : road(row.get(row.size() - 1), chimney);
                int done = days + way + works[chimney];
                row.add(chimney);
                tryOrders(all, row, done, cost + risks[chimney] * done);
                row.remove(row.size() - 1);
            }
        }
    }

    public int ordered(int i) {
        mustBeOneOf(i, order == null ? 0 : order.size());
        return order.get(i);
    }

    // ---- ladders

    public int ladders(int chimney, int courses) {
        mustBe(chimney);
        must(courses >= 3 && courses <= 99);
        int many = 1;
        int reach = courses;
        while (reach < yard.courses.get(chimney)) {
            many++;
            reach += courses - 2;
        }
        return many;
    }

    public int out(int many, int courses) {
        must(many >= 0 && many <= 200 && courses >= 3 && courses <= 99);
        int best = 0;
        int bestCourses = 0;
        String bestRow = null;
        for (int set = 0; set < 1 << yard.courses.size(); set++) {
            int wanted = 0;
            int together = 0;
            String row = "";
            for (int c = 0; c < yard.courses.size(); c++) {
                boolean in = (set >> c & 1) == 1;
                wanted += in ? ladders(c, courses) : 0;
                together += in ? yard.courses.get(c) : 0;
                row += in ? "a" : "b";
            }
            if (wanted <= many && (bestRow == null || together > bestCourses
                    || together == bestCourses && row.compareTo(bestRow) < 0)) {
                best = set;
                bestCourses = together;
                bestRow = row;
            }
        }
        return best;
    }

    // ---- owners

    private final int[] means = new int[6];
    private int[][] parts = new int[12][6];
    private int[] paid = new int[6];

    public boolean means(int owner, int much) {
        mustBeOneOf(owner, 6);
        if (much < 0 || much > 9999) {
            return false;
        }
        means[owner] = much;
        return true;
    }

    public boolean part(int chimney, int owner, int part) {
        mustBe(chimney);
        mustBeOneOf(owner, 6);
        if (part < 0 || part > 100) {
            return false;
        }
        parts[chimney][owner] = part;
        return true;
    }

    public int bill(int chimney, int much) {
        mustBe(chimney);
        must(much >= 1 && much <= 99999);
        paid = new int[6];
        int wanting = much;
        boolean somebody = true;
        while (somebody) {
            somebody = false;
            int[] before = means.clone();
            int all = 0;
            for (int o = 0; o < 6; o++) {
                all += before[o] > 0 ? parts[chimney][o] : 0;
            }
            int left = wanting;
            for (int o = 0; o < 6; o++) {
                if (before[o] > 0 && parts[chimney][o] > 0) {
                    int pays = (int) Math.min(before[o], (long) wanting * parts[chimney][o] / all);
                    somebody = somebody || pays > 0;
                    means[o] -= pays;
                    paid[o] += pays;
                    left -= pays;
                }
            }
            wanting = left;
        }
        for (int turn = 0; turn < 100; turn++) {
            for (int o = 0; o < 6; o++) {
                if (wanting > 0 && means[o] > 0 && parts[chimney][o] > 0) {
                    means[o]--;
                    paid[o]++;
                    wanting--;
                }
            }
        }
        return wanting;
    }

    public int paid(int owner, int what) {
        mustBeOneOf(owner, 6);
        mustBeOneOf(what, 2);
        return what == 0 ? paid[owner] : means[owner];
    }
}
