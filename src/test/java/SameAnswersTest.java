import java.util.ArrayList;
import java.util.List;

/**
 * Asks ChimneyGang and NaiveGang the same, in many runs of calls, and prints the first calls of a run that
 * they answer unlike. The numbers come from a row of its own, so each time the same is asked.
 * With two arguments: the first run and how many.
 */
public final class SameAnswersTest {
    private static final String[] NAMES = {"count", "letter", "road", "begins", "plan", "planned", "plumb", "doubt",
        "lean", "limit", "rod", "wall", "tell", "sure", "next", "stands", "cut", "fell", "rope", "life", "need",
        "ropes", "rule", "climb", "climbs", "up", "back", "image", "restore", "band", "mortar", "weak", "lasts",
        "bands", "risk", "order", "ordered", "ladders", "out", "even", "gang", "means", "part", "bill", "paid",
        "storm", "odds", "yard", "fault"};
    /** What is asked together, so that one run goes deep into one part. */
    private static final String[] THEMES = {
        "plan planned planned planned even even gang gang gang storm storm odds odds begins begins letter road",
        "plumb doubt lean limit lean limit plumb",
        "rod wall tell tell tell sure sure next next next",
        "stands cut fell",
        "rope life need ropes rule climb climb climb climb climb climbs up back image restore",
        "need need need ropes",
        "band band mortar weak lasts bands",
        "risk order ordered ladders out",
        "means part bill paid bill",
        "tell rod tell tell tell next sure next sure next",
    };

    private long state;
    private final ChimneyGang real = new ChimneyGang();
    private final NaiveGang naive = new NaiveGang();
    private final List<String> said = new ArrayList<>();
    private boolean same = true;
    private int parts = 14;
    /** What is bad or loose in truth, so that most answers that are told leave some case. */
    private int hidden = 0;
    private boolean wall = false;
    private int good = 0;
    private int bad = 1;

    private SameAnswersTest(long run) {
        state = mixed(mixed(run + 77777) + 12345);
    }

    private static long mixed(long number) {
        long z = (number ^ number >>> 30) * 0xBF58476D1CE4E5B9L;
        z = (z ^ z >>> 27) * 0x94D049BB133111EBL;
        return z ^ z >>> 31;
    }

    private int below(int bound) {
        state += 0x9E3779B97F4A7C15L;
        return (int) Math.floorMod(mixed(state), (long) bound);
    }

    private boolean chance(int ofHundred) {
        return below(100) < ofHundred;
    }

    private int from(int least, int most) {
        return least + below(most - least + 1);
    }

    public static void main(String[] args) {
        int first = args.length > 1 ? Integer.parseInt(args[0]) : 0;
        int many = args.length > 1 ? Integer.parseInt(args[1]) : 400;
        int wrong = 0;
        for (int run = first; run < first + many && wrong < 5; run++) {
            SameAnswersTest test = new SameAnswersTest(run);
            test.run(run);
            if (!test.same) {
                wrong++;
                System.out.println("run " + run + ":");
                int size = test.said.size();
                for (String line : test.said.subList(Math.max(0, size - 60), size)) {
                    System.out.println("  " + line);
                }
            }
        }
        System.out.println(many + " runs, " + wrong + " unlike");
        if (wrong != 0) {
            System.exit(1);
        }
    }

    private void run(int run) {
        String[] theme = THEMES[run % THEMES.length].split(" ");
        if (!chance(5)) {
            tellYard();
        }
        parts = chance(20) ? 14 : from(2, 9);
        hidden = below(1 << parts);
        for (int rope = 0; rope < 6 && chance(80); rope++) {
            both("rope", from(1, 900));
        }
        for (int call = 0; call < 300 && same; call++) {
            int kind = below(100);
            if (kind < 1 || kind < 6 && run % THEMES.length == 0) {
                tellYard();
                ask("plan");
                call += 30;
            } else if (kind < 93) {
                ask(theme[below(theme.length)]);
            } else {
                ask(NAMES[below(NAMES.length)]);
            }
        }
    }

    private void tellYard() {
        String text = text();
        for (int at = 0; at < text.length() && same; at += 20) {
            int[] a = new int[5];
            for (int i = 0; i < 20; i++) {
                a[i / 4] = a[i / 4] << 8 | (at + i < text.length() ? text.charAt(at + i) : ' ');
            }
            both("feed", a[0], a[1], a[2], a[3], a[4]);
        }
        said.add("text: " + text.replace('\n', '~'));
        both("yard", chance(90) ? text.length() : from(-1, text.length() + 30));
        both("fault");
        for (int what = 0; what < 8; what++) {
            both("count", what);
        }
    }

    private String text() {
        StringBuilder text = new StringBuilder();
        int chimneys = chance(10) ? from(0, 13) : from(1, 12);
        boolean small = chance(50);
        for (int i = 0; i < chimneys; i++) {
            text.append("chimney ").append(small ? from(1, 30) : from(1, 200)).append("; ");
        }
        int days = chance(60) ? 30 : from(0, 31);
        if (days > 0) {
            text.append("winds");
            for (int i = 0; i < days; i++) {
                text.append(' ').append(chance(85) ? from(0, 6) : from(0, 12));
            }
            text.append(";");
        }
        int letters = chance(60) ? from(0, 8) : from(0, 5);
        int most = chance(50) ? 3 : 9;
        for (int i = 0; i < letters; i++) {
            int from = from(0, chance(50) ? 5 : 25);
            text.append("letter ").append(from(0, Math.max(0, chimneys - 1))).append(" days ").append(from(1, most))
                .append(" wind ").append(chance(70) ? from(6, 12) : from(2, 12)).append(" from ").append(from).append(" till ")
                .append(from(Math.max(from, 12), 29)).append(" price ").append(chance(50) ? from(0, 3) : from(0, 999))
                .append(";");
        }
        int roads = chimneys > 1 ? from(0, 5) : 0;
        for (int i = 0; i < roads; i++) {
            int a = below(chimneys);
            int b = (a + 1 + below(chimneys - 1)) % chimneys;
            text.append("road ").append(a).append(' ').append(b).append(" moves ").append(from(0, 9)).append(";\n");
        }
        int nests = chance(10) ? 13 : from(0, 3);
        for (int i = 0; i < nests && chimneys > 0; i++) {
            int from = from(0, 29);
            text.append("nest ").append(below(chimneys)).append(" from ").append(from).append(" till ")
                .append(from(from, Math.min(29, from + 3))).append(";");
        }
        if (text.length() > 600) {
            text.setLength(chance(90) ? Math.max(text.substring(0, 600).lastIndexOf(';') + 1, 1) : 600);
        }
        for (int i = 0; i < 3 && chance(20); i++) {
            spoil(text);
        }
        return text.substring(0, Math.min(600, text.length()));
    }

    private static final String[] PIECES = {"chimney", "winds", "letter", "days", "wind", "from", "till", "price",
        "road", "moves", "nest", ";", " ", "\n", "\t", "a", "0", "7", "13", "30", "200", "201", "9999", "10000",
        "00012", "0003", "é", "Z", "", "-"};

    private void spoil(StringBuilder text) {
        String piece = PIECES[below(PIECES.length)];
        if (text.length() == 0) {
            text.append(piece);
            return;
        }
        int at = below(text.length());
        if (chance(60)) {
            while (at > 0 && text.charAt(at - 1) != ' ' && text.charAt(at - 1) != ';') {
                at--;
            }
        }
        int behind = at;
        while (behind < text.length() && chance(90) && text.charAt(behind) != ' ' && text.charAt(behind) != ';') {
            behind++;
        }
        if (chance(50)) {
            text.replace(at, behind, piece);
        } else {
            text.insert(at, piece);
        }
    }

    private void ask(String name) {
        int chimneys = Math.max(1, real.count(0));
        int c = chance(97) ? below(chance(50) ? Math.min(3, chimneys) : chimneys) : from(-1, 12);
        int letter = chance(90) ? below(Math.max(1, real.count(1))) : from(-1, 8);
        int w = from(-1, 7);
        switch (name) {
            case "count": both(name, from(-1, 8)); break;
            case "letter": both(name, letter, from(-1, 6)); break;
            case "road": both(name, c, chance(90) ? below(chimneys) : from(-1, 12)); break;
            case "begins": both(name, letter, chance(95) ? from(-1, 31) : odd()); break;
            case "planned": both(name, chance(70) ? from(-1, 2) : from(-2, 8), chance(90) ? from(0, 1) : from(-1, 2)); break;
            case "plumb": askPlumb(c); break;
            case "doubt": both(name, c, chance(60) ? from(0, 40) : from(-1, 501)); break;
            case "lean": both(name, c, chance(50) ? from(0, 40) : from(-1, 501), chance(95) ? from(0, 1) : w); break;
            case "limit": both(name, c, chance(70) ? from(-200, 900) : odd(), chance(95) ? from(0, 1) : w); break;
            case "rod": askRod(); break;
            case "wall":
                wall = true;
                both(name, chance(90) ? parts : from(1, 15));
                break;
            case "tell": askTell(); break;
            case "sure": case "next": both(name, chance(95) ? from(0, 2) : w); break;
            case "stands":
                both(name, chance(50) ? 65535 & ~(1 << below(16)) & ~(1 << below(16)) : odd(), at(), at());
                break;
            case "cut": both(name, chance(95) ? from(0, 15) : odd(), chance(95) ? from(1, 12) : from(0, 13), at(), at()); break;
            case "fell": both(name, chance(97) ? from(0, 15) : from(-1, 16), chance(97) ? from(0, 15) : odd(), at(), at()); break;
            case "rope": both(name, chance(80) ? from(1, 400) : odd()); break;
            case "life": both(name, from(-1, 20)); break;
            case "need": both(name, chance(95) ? from(1, 20) : odd()); break;
            case "ropes": both(name, chance(90) ? from(15, 40) : odd()); break;
            case "rule": both(name, from(-1, 14)); break;
            case "climb":
                both(name, chance(97) ? from(0, 9) : from(-1, 10), c,
                    chance(95) ? below(Math.max(1, real.count(4))) : from(-1, 20),
                    chance(70) ? from(0, 5) : from(-1, 30));
                break;
            case "climbs": both(name, w); break;
            case "up": both(name, c, chance(80) ? from(0, 5) : from(-1, 30)); break;
            case "band":
                both(name, c, chance(50) ? from(0, 9) : from(-1, 60), chance(80) ? from(0, 60) : from(-1, 301), chance(90) ? from(1, 500) : odd(),
                    chance(90) ? from(0, 20) : odd());
                break;
            case "mortar": both(name, c, chance(90) ? from(0, 300) : odd()); break;
            case "weak":
                both(name, c, chance(80) ? from(0, 90) : from(-1, 501), from(-1, 14), chance(90) ? from(0, 2) : w);
                break;
            case "lasts": both(name, c, chance(80) ? from(0, 90) : from(-1, 501), from(-1, 14)); break;
            case "bands":
                both(name, c, chance(80) ? from(0, 90) : from(-1, 501), chance(80) ? from(0, 2) : from(-1, 14),
                    chance(90) ? from(1, 200) : odd());
                break;
            case "risk":
                both(name, c, chance(90) ? from(0, 9) : from(-1, 1000), chance(90) ? from(1, 9) : from(0, 100));
                break;
            case "order": both(name, chance(80) ? below(1 << chimneys) : chance(50) ? from(-1, 4095) : odd()); break;
            case "ordered": both(name, from(-1, 9)); break;
            case "ladders": both(name, c, from(2, 100)); break;
            case "out": both(name, from(-1, chance(50) ? 30 : 201), chance(50) ? from(3, 12) : from(2, 100)); break;
            case "even": both(name, chance(95) ? from(2, 4) : odd()); break;
            case "gang": both(name, chance(90) ? from(0, 4) : from(-1, 8)); break;
            case "means": both(name, chance(95) ? from(0, 5) : w, chance(80) ? from(0, 60) : from(-1, 10000)); break;
            case "part": both(name, c, chance(95) ? from(0, 5) : w, chance(80) ? from(0, 12) : from(-1, 101)); break;
            case "bill": both(name, c, chance(80) ? from(1, 250) : chance(50) ? from(1, 99999) : from(-1, 100001)); break;
            case "paid": both(name, w, from(-1, 2)); break;
            case "storm": both(name, from(-1, 30), chance(60) ? from(0, 10) : from(-1, 101)); break;
            case "odds": both(name, chance(40) ? 0 : from(-1, 102)); break;
            case "yard": both(name, from(-1, 20)); break;
            default: both(name); break;
        }
    }

    private void askRod() {
        good = from(0, 9);
        bad = good + from(1, 9);
        wall = false;
        int n = parts;
        if (chance(15)) {
            n = from(1, 15);
            bad = chance(50) ? good : from(98, 100);
        }
        both("rod", n, good, bad);
    }

    private void askTell() {
        int i = chance(95) ? below(parts) : from(-1, 15);
        int j = chance(95) ? Math.min(parts, i + from(1, parts)) : from(-1, 15);
        if (chance(3) || i < 0) {
            both("tell", i, j, from(0, 30));
            return;
        }
        int bads = Integer.bitCount(hidden >> i & (1 << Math.max(0, j - i)) - 1);
        int dull = (hidden & (7 << i >> 1)) != 0 ? 1 : 0;
        both("tell", i, j, wall ? dull : bads * bad + (j - i - bads) * good);
    }

    /** Readings of a chimney lie about a line, so that lines go through most of them. */
    private void askPlumb(int chimney) {
        int year = chance(60) ? from(0, 30) : from(-1, 301);
        int lean = (chimney * 7 - 11) * year / 3 + from(-9, 9);
        both("plumb", chimney, year, chance(95) ? lean : chance(80) ? from(-3000, 3000) : odd());
    }

    private int at() {
        return chance(97) ? from(-70, 70) : from(-97, 97);
    }

    private int odd() {
        int[] odd = {0, -1, 1, 9999, 10000, 3000, 3001, -3000, -3001, 65535, 65536, Integer.MAX_VALUE,
            Integer.MIN_VALUE, 999, 1000, 16, 31};
        return odd[below(odd.length)];
    }

    private void both(String name, int... args) {
        if (args.length > 0 && !name.equals("feed") && !name.equals("yard") && chance(2)) {
            args[below(args.length)] = odd();
        }
        String one = Check.answer(real, name, args);
        String other = Check.answer(naive, name, args);
        StringBuilder call = new StringBuilder(name).append('(');
        for (int i = 0; i < args.length; i++) {
            call.append(i > 0 ? ", " : "").append(args[i]);
        }
        said.add(call + ") = " + one + (one.equals(other) ? "" : ", but by trying out " + other));
        same = same && one.equals(other);
    }
}
