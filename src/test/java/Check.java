import java.util.NoSuchElementException;

/** What every test of the project uses: calls, the answers that are due, and yards fed as texts. */
final class Check {
    interface Call {
        long answer();
    }

    private static int wrong = 0;
    private static int asked = 0;

    private Check() {
    }

    static void due(String call, long got, long want) {
        asked++;
        if (got != want) {
            wrong++;
            System.out.println(call + " answered " + got + ", due is " + want);
        }
    }

    static void due(String call, boolean got, boolean want) {
        due(call, got ? 1 : 0, want ? 1 : 0);
    }

    static void missing(String call, Call it) {
        thrown(call, it, NoSuchElementException.class);
    }

    static void refused(String call, Call it) {
        thrown(call, it, IllegalArgumentException.class);
    }

    private static void thrown(String call, Call it, Class<? extends RuntimeException> due) {
        asked++;
        try {
            long got = it.answer();
            wrong++;
            System.out.println(call + " answered " + got + ", due is " + due.getSimpleName());
        } catch (RuntimeException e) {
            if (e.getClass() != due) {
                wrong++;
                System.out.println(call + " threw " + e + ", due is " + due.getSimpleName());
            }
        }
    }

    /** Feeds a text, filled up with blanks; what feed() answers last. */
    static int feed(ChimneyGang gang, String text) {
        int fed = ChimneyGang.NONE;
        for (int at = 0; at < text.length(); at += 20) {
            fed = gang.feed(four(text, at), four(text, at + 4), four(text, at + 8), four(text, at + 12),
                    four(text, at + 16));
        }
        return fed;
    }

    private static int four(String text, int at) {
        int number = 0;
        for (int i = at; i < at + 4; i++) {
            number = number << 8 | (i < text.length() ? text.charAt(i) & 255 : ' ');
        }
        return number;
    }

    static int yard(ChimneyGang gang, String text) {
        feed(gang, text);
        return gang.yard(text.length());
    }

    static ChimneyGang told(String text) {
        ChimneyGang gang = new ChimneyGang();
        due("yard of " + text, yard(gang, text), 0);
        return gang;
    }

    static void end() {
        System.out.println(asked + " answers looked at, " + wrong + " wrong");
        if (wrong != 0 || asked == 0) {
            System.exit(1);
        }
    }
}
