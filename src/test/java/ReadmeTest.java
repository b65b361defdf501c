import java.io.IOException;
import java.io.PrintWriter;
import java.lang.reflect.Method;
import java.lang.reflect.Modifier;
import java.net.URL;
import java.net.URLClassLoader;
import java.nio.file.Files;
import java.nio.file.Path;
import java.util.ArrayList;
import java.util.List;
import java.util.Set;
import java.util.TreeSet;
import java.util.regex.Matcher;
import java.util.regex.Pattern;
import java.util.spi.ToolProvider;

/**
 * README.md has each call once, with the words of its promise in ../shared/DOC.md, and what its examples
 * say behind a call is what the class answers.
 */
public final class ReadmeTest {
    private static final Path README = Path.of("README.md");
    private static final Path DOCUMENT = Path.of("../shared/DOC.md");
    private static final int PROMISES = 51;
    private static final Pattern BLOCK = Pattern.compile("^```java\n(.*?)^```$", Pattern.MULTILINE | Pattern.DOTALL);
    private static final Pattern EXAMPLE = Pattern.compile(
        "(ChimneyGang gang = new ChimneyGang\\(\\));\\s*"
        + "|tell\\(gang, (\"[^\"]*\"(?:\\s*\\+ \"[^\"]*\")*)\\);\\s*// (.*)\\s*"
        + "|gang\\.(\\w+)\\(([-\\d, ]*)\\);\\s*// (.*)\\s*");

    private static int wrong = 0;

    private ReadmeTest() {
    }

    public static void main(String[] args) throws Exception {
        String readme = Files.readString(README);
        tables(readme, Files.readString(DOCUMENT));
        List<String> blocks = new ArrayList<>();
        Matcher block = BLOCK.matcher(readme);
        while (block.find()) {
            blocks.add(block.group(1));
        }
        must(blocks.size() > 1, "no examples were found");
        if (blocks.size() > 1) {
            examples(teller(blocks.get(0)), String.join("", blocks.subList(1, blocks.size())));
        }
        System.out.println(wrong == 0 ? "README.md is as the document and the class are" : wrong + " wrong");
        if (wrong != 0) {
            System.exit(1);
        }
    }

    private static void must(boolean so, String what) {
        if (!so) {
            wrong++;
            System.out.println(what);
        }
    }

    private static void tables(String readme, String document) {
        Matcher row = Pattern.compile("^\\| (`[^`]*\\)[^`]*`) \\| (.*) \\|(.*) \\|$", Pattern.MULTILINE).matcher(readme);
        List<String> rows = new ArrayList<>();
        while (row.find()) {
            rows.add((row.group(1) + ": " + row.group(2) + row.group(3)).strip());
        }
        must(rows.size() == PROMISES, "README.md has " + rows.size() + " calls");
        Matcher told = Pattern.compile("^## Promise (\\d+): .*\n\n(.*(?:\n.+)*)", Pattern.MULTILINE).matcher(document);
        int promises = 0;
        while (told.find()) {
            promises++;
            String words = told.group(2).replaceAll("\\s+", " ").strip();
            must(rows.contains(words), "README.md has no row of promise " + told.group(1) + ": " + words);
        }
        must(promises == PROMISES, "the document has " + promises + " promises");
    }

    /** README's own way to feed a text, compiled as it stands there; the tests' own where java has no javac in it. */
    private static Method teller(String source) throws IOException, ReflectiveOperationException {
        ToolProvider javac = ToolProvider.findFirst("javac").orElse(null);
        if (javac == null) {
            System.out.println("no javac here: README.md's Example is not compiled");
            return Check.class.getDeclaredMethod("yard", ChimneyGang.class, String.class);
        }
        Path folder = Files.createTempDirectory("readme");
        Path file = folder.resolve("Example.java");
        Files.writeString(file, source);
        PrintWriter out = new PrintWriter(System.out, true);
        int ended = javac.run(out, out, "-d", folder.toString(), "-cp", System.getProperty("java.class.path"), file.toString());
        must(ended == 0, "README.md's Example does not compile");
        URLClassLoader loader = new URLClassLoader(new URL[] {folder.toUri().toURL()});
        Method tell = loader.loadClass("Example").getDeclaredMethod("tell", ChimneyGang.class, String.class);
        tell.setAccessible(true);
        for (Path made : List.of(folder, file, folder.resolve("Example.class"))) {
            made.toFile().deleteOnExit();
        }
        return tell;
    }

    private static void examples(Method tell, String code) throws ReflectiveOperationException {
        Set<String> left = new TreeSet<>();
        for (Method method : ChimneyGang.class.getDeclaredMethods()) {
            if (Modifier.isPublic(method.getModifiers())) {
                left.add(method.getName());
            }
        }
        Matcher example = EXAMPLE.matcher(code);
        ChimneyGang gang = null;
        int at = 0;
        while (at < code.length() && example.find(at) && example.start() == at) {
            at = example.end();
            if (example.group(1) != null) {
                gang = new ChimneyGang();
            } else if (example.group(2) != null) {
                String text = example.group(2).replaceAll("^\"|\"$|\"\\s*\\+ \"", "");
                left.remove("yard");
                due(example.group(), String.valueOf(tell.invoke(null, gang, text)), example.group(3));
            } else {
                left.remove(example.group(4));
                String call = (example.group(4) + " " + example.group(5).replace(",", "")).strip();
                String answer = Check.answer(gang, call);
                due(example.group(), answer, answer.equals("null") ? "null" : example.group(6));
            }
        }
        must(at == code.length(), "this example isn't understood: " + code.substring(at).lines().findFirst().orElse(""));
        must(left.isEmpty(), "no example has " + left);
    }

    /** The answer is the first word of what stands behind the call. */
    private static void due(String example, String answer, String said) {
        String word = said.replaceFirst("^throws ", "throws.").replaceFirst(":? .*$", "");
        must(answer.equals(word), example.strip() + "\n    but it answered " + answer);
    }
}
