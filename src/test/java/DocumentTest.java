import java.io.IOException;
import java.nio.file.Files;
import java.nio.file.Path;
import java.util.ArrayList;
import java.util.List;
import java.util.regex.Matcher;
import java.util.regex.Pattern;
import java.util.stream.Stream;

/**
 * Looks for the words of every Check.says() in the document, and sees to it that no sentence of the document
 * is left that names an edge and has no test of its own.
 */
public final class DocumentTest {
    private static final Path DOCUMENT = Path.of("../shared/DOC.md");
    private static final Path TESTS = Path.of("src/test/java");
    private static final int PROMISES = 51;
    private static final Pattern SAYS = Pattern.compile("Check\\.says\\((\\d+), ((?:\"(?:[^\"\\\\]|\\\\.)*\"[\\s+]*)+)\\)");
    private static final Pattern WORDS = Pattern.compile("\"((?:[^\"\\\\]|\\\\.)*)\"");
    /** What is left of the document beside what tests quote names no number, no refusal, no end of anything. */
    private static final Pattern EDGE = Pattern.compile("\\d|NONE|Exception|[Ff]alse|[Nn]one|no such|not as told|likewise"
        + "|most|least|greatest|fewest|first|last|latest|more|less|above|below|ahead|behind|gone|stay|empty|only|till");

    private static int wrong = 0;

    private DocumentTest() {
    }

    public static void main(String[] args) throws IOException {
        String document = Files.readString(DOCUMENT);
        List<String> sections = new ArrayList<>();
        sections.add(terms(document));
        for (int promise = 1; promise <= PROMISES; promise++) {
            sections.add(promise(document, promise));
        }
        List<boolean[]> quoted = new ArrayList<>();
        for (String section : sections) {
            quoted.add(new boolean[section.length()]);
        }
        int sentences = quoteAll(sections, quoted);
        for (int i = 0; i < sections.size(); i++) {
            lookAtWhatIsLeft(i, sections.get(i), quoted.get(i));
        }
        System.out.println(sentences + " sentences have tests, " + wrong + " wrong");
        if (wrong != 0 || sentences == 0) {
            System.exit(1);
        }
    }

    private static String oneLine(String text) {
        return text.replaceAll("```(text)?|==== \\d\\.", " ").replaceAll("\\s+", " ").strip();
    }

    /** All that stands ahead of the promises but for the list of parts, which Terms tell, and the code of the face. */
    private static String terms(String document) {
        String about = between(document, "==== 1.", "## The public face");
        return oneLine(about + " " + between(document, "## Terms", "## Promise 1:"));
    }

    /** A promise without its heading and without the line of code that it begins with. */
    private static String promise(String document, int promise) {
        String text = between(document, "## Promise " + promise + ":", promise < PROMISES ? "## Promise " : "## Not promised");
        int behindCode = text.indexOf("`:", text.indexOf('`') + 1);
        return oneLine(text.substring(behindCode + 2));
    }

    private static String between(String text, String head, String tail) {
        int begin = text.indexOf(head);
        int end = begin < 0 ? -1 : text.indexOf(tail, begin + head.length());
        if (begin < 0 || end < 0) {
            tellWrong("the document has no " + head);
            return "";
        }
        return text.substring(begin + head.length(), end);
    }

    private static void tellWrong(String what) {
        wrong++;
        System.out.println(what);
    }

    private static int quoteAll(List<String> sections, List<boolean[]> quoted) throws IOException {
        int sentences = 0;
        List<Path> files;
        try (Stream<Path> all = Files.list(TESTS)) {
            files = all.filter(file -> file.toString().endsWith("Test.java")).sorted().toList();
        }
        for (Path file : files) {
            Matcher says = SAYS.matcher(Files.readString(file));
            while (says.find()) {
                StringBuilder words = new StringBuilder();
                Matcher part = WORDS.matcher(says.group(2));
                while (part.find()) {
                    words.append(part.group(1));
                }
                quote(Integer.parseInt(says.group(1)), words.toString(), sections, quoted);
                sentences++;
            }
        }
        return sentences;
    }

    private static void quote(int promise, String words, List<String> sections, List<boolean[]> quoted) {
        String section = promise < sections.size() ? sections.get(promise) : "";
        int at = section.indexOf(words);
        if (at < 0) {
            tellWrong("promise " + promise + " doesn't say: " + words);
            return;
        }
        if (section.indexOf(words, at + 1) >= 0) {
            tellWrong("promise " + promise + " says it twice: " + words);
        }
        for (int i = at; i < at + words.length(); i++) {
            quoted.get(promise)[i] = true;
        }
    }

    private static void lookAtWhatIsLeft(int promise, String section, boolean[] quoted) {
        int at = 0;
        while (at < section.length()) {
            int begin = at;
            while (at < section.length() && quoted[at] == quoted[begin]) {
                at++;
            }
            String left = section.substring(begin, at);
            if (!quoted[begin] && EDGE.matcher(left).find()) {
                tellWrong("no test is of promise " + promise + ": " + left);
            }
        }
    }
}
