import java.lang.reflect.InvocationTargetException;
import java.lang.reflect.Method;
import java.util.NoSuchElementException;

/** What every test of the project uses: sentences, calls, the answers that are due, and yards fed as texts. */
final class Check {
    interface Call {
        long answer();
    }

    interface Asked {
        boolean answer();
    }

    private static final int MOST_TOLD = 20;

    private static int wrong = 0;
    private static int asked = 0;
    private static int askedBefore = 0;
    private static String sentence = "";

    private Check() {
    }

    /**
     * What is asked from here on is asked for these words of the document: of a promise, or (0) of what
     * stands ahead of the promises. DocumentTest looks for the words there.
     */
    static void says(int promise, String words) {
        endSentence();
        sentence = (promise == 0 ? "Terms: " : "Promise " + promise + ": ") + words;
        askedBefore = asked;
    }

    private static void endSentence() {
        if (!sentence.isEmpty() && asked == askedBefore) {
            tellWrong("nothing was asked");
        }
    }

    private static void tellWrong(String what) {
        wrong++;
        if (wrong <= MOST_TOLD) {
            System.out.println(sentence + "\n    " + what);
        }
    }

    static void due(String call, long got, long want) {
        asked++;
        if (got != want) {
            tellWrong(call + " answered " + got + ", due is " + want);
        }
    }

    static void due(String call, boolean got, boolean want) {
        due(call, got ? 1 : 0, want ? 1 : 0);
    }

    static void missing(String call, Call it) {
        thrown(call, it, NoSuchElementException.class);
    }

    static void refused(String call, Call it) {
        thrown(call, it, IllegalArgumentException.class);
    }

    static void missing(String call, Asked it) {
        thrown(call, () -> it.answer() ? 1 : 0, NoSuchElementException.class);
    }

    static void refused(String call, Asked it) {
        thrown(call, () -> it.answer() ? 1 : 0, IllegalArgumentException.class);
    }

    private static void thrown(String call, Call it, Class<? extends RuntimeException> due) {
        asked++;
        try {
            tellWrong(call + " answered " + it.answer() + ", due is " + due.getSimpleName());
        } catch (RuntimeException e) {
            if (e.getClass() != due) {
                tellWrong(call + " threw " + e + ", due is " + due.getSimpleName());
            }
        }
    }

    /** What a call answers, or the name of what it throws behind "throws."; a boolean is true or false. */
    static String answer(Object gang, String name, int... args) {
        Class<?>[] types = new Class<?>[args.length];
        Object[] values = new Object[args.length];
        for (int i = 0; i < args.length; i++) {
            types[i] = int.class;
            values[i] = args[i];
        }
        try {
            Method method = gang.getClass().getMethod(name, types);
            return String.valueOf(method.invoke(gang, values));
        } catch (InvocationTargetException e) {
            return "throws." + e.getCause().getClass().getSimpleName();
        } catch (ReflectiveOperationException e) {
            throw new IllegalStateException(e);
        }
    }

    /** A call told as a text: its name and its arguments, a blank between. */
    static String answer(Object gang, String call) {
        String[] words = call.split(" ");
        int[] args = new int[words.length - 1];
        for (int i = 0; i < args.length; i++) {
            args[i] = Integer.parseInt(words[i + 1]);
        }
        return answer(gang, words[0], args);
    }

    /** Asks two objects the same, call by call: they must answer alike. */
    static void alike(Object one, Object other, String... calls) {
        for (String call : calls) {
            asked++;
            String got = answer(one, call);
            String want = answer(other, call);
            if (!got.equals(want)) {
                tellWrong(call + " answered " + got + ", due is " + want);
            }
        }
    }

    /** Feeds a text, filled up with blanks; what feed() answers last. */
    static int feed(ChimneyGang gang, String text) {
        int fed = ChimneyGang.NONE;
        for (int at = 0; at < text.length(); at += 20) {
            fed = gang.feed(four(text, at), four(text, at + 4), four(text, at + 8), four(text, at + 12),
                    four(text, at + 16));
        }
        return fed;
    }

    private static int four(String text, int at) {
        int number = 0;
        for (int i = at; i < at + 4; i++) {
            number = number << 8 | (i < text.length() ? text.charAt(i) & 255 : ' ');
        }
        return number;
    }

    /** Tells a yard to the document's naive second writing. */
    static NaiveGang naive(String text) {
        NaiveGang gang = new NaiveGang();
        for (int at = 0; at < text.length(); at += 20) {
            gang.feed(four(text, at), four(text, at + 4), four(text, at + 8), four(text, at + 12), four(text, at + 16));
        }
        gang.yard(text.length());
        return gang;
    }

    static int yard(ChimneyGang gang, String text) {
        feed(gang, text);
        return gang.yard(text.length());
    }

    static ChimneyGang told(String text) {
        ChimneyGang gang = new ChimneyGang();
        int fault = yard(gang, text);
        if (fault != 0) {
            tellWrong("yard of " + text + " answered " + fault + " at " + gang.fault());
        }
        return gang;
    }

    static String times(String text, int times) {
        StringBuilder all = new StringBuilder();
        for (int i = 0; i < times; i++) {
            all.append(text);
        }
        return all.toString();
    }

    static int wrong() {
        endSentence();
        return wrong;
    }

    static void end() {
        endSentence();
        System.out.println(asked + " answers looked at, " + wrong + " wrong");
        if (wrong != 0 || asked == 0) {
            System.exit(1);
        }
    }
}
