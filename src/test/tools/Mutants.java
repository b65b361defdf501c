import java.io.ByteArrayOutputStream;
import java.io.IOException;
import java.io.OutputStream;
import java.io.PrintStream;
import java.io.Writer;
import java.lang.reflect.Method;
import java.net.URI;
import java.nio.file.Files;
import java.nio.file.Path;
import java.util.ArrayList;
import java.util.HashMap;
import java.util.List;
import java.util.Map;
import java.util.TreeMap;
import java.util.concurrent.ExecutorService;
import java.util.concurrent.Executors;
import java.util.concurrent.Future;
import java.util.concurrent.TimeUnit;
import java.util.regex.Matcher;
import java.util.regex.Pattern;
import javax.tools.FileObject;
import javax.tools.ForwardingJavaFileManager;
import javax.tools.JavaCompiler;
import javax.tools.JavaFileManager;
import javax.tools.JavaFileObject;
import javax.tools.SimpleJavaFileObject;
import javax.tools.ToolProvider;

/**
 * Breaks the class in one place after another and prints each breach that no test of the document's
 * sentences sees, or that no longer ends. By hand, not in CI: the tests' classes must lie in the folder that the first argument
 * names; two more: the first line of the source to break and the line behind the last.
 */
public final class Mutants {
    private static final Path SOURCE = Path.of("src/main/java/ChimneyGang.java");
    private static final String[] TESTS = {"TextTest", "YardTest", "PlanTest", "PlumbTest", "TrialTest", "FellTest",
        "ClimbTest", "BandTest", "OrderTest", "OwnerTest"};
    private static final String[][] SWAPS = {{" < ", " <= "}, {" <= ", " < "}, {" > ", " >= "}, {" >= ", " > "},
        {" == ", " != "}, {" != ", " == "}, {" + ", " - "}, {" - ", " + "}, {" * ", " + "}, {" && ", " || "},
        {" || ", " && "}, {"Math.max", "Math.min"}, {"Math.min", "Math.max"}, {"++", "--"}, {"--", "++"},
        {" += ", " -= "}, {" -= ", " += "}, {"true", "false"}, {"false", "true"}, {"(!", "("}, {" !", " "},
        {" | ", " & "}, {" & ", " | "}, {" >> ", " << "}, {"NONE", "0"}, {" / ", " * "}, {" % ", " / "}};
    private static final long SECONDS = 20;

    private record Mutant(int line, String was, String is) {
    }

    private Mutants() {
    }

    public static void main(String[] args) throws Exception {
        List<String> lines = Files.readAllLines(SOURCE);
        int first = args.length > 2 ? Integer.parseInt(args[1]) : 1;
        int behind = args.length > 2 ? Integer.parseInt(args[2]) : lines.size() + 1;
        List<Mutant> mutants = new ArrayList<>();
        for (int line = first; line < behind; line++) {
            String text = lines.get(line - 1);
            if (!text.strip().startsWith("//") && !text.strip().startsWith("*") && !text.contains("/**")
                    && !text.startsWith("import")) {
                breakLine(line, text, mutants);
            }
        }
        Map<String, byte[]> tests = classesUnder(Path.of(args[0]));
        PrintStream out = System.out;
        System.setOut(new PrintStream(OutputStream.nullOutputStream()));
        ExecutorService workers = Executors.newFixedThreadPool(Runtime.getRuntime().availableProcessors());
        Map<Integer, Future<String>> ends = new TreeMap<>();
        for (int i = 0; i < mutants.size(); i++) {
            Mutant mutant = mutants.get(i);
            ends.put(i, workers.submit(() -> endOf(mutant, lines, tests)));
        }
        Map<String, Integer> counts = new TreeMap<>();
        for (int i = 0; i < mutants.size(); i++) {
            String end = ends.get(i).get();
            counts.merge(end, 1, Integer::sum);
            if (end.equals("unseen") || end.equals("too slow")) {
                Mutant mutant = mutants.get(i);
                out.println(end + " " + mutant.line + ": " + mutant.was.strip() + "\n      -> " + mutant.is.strip());
            }
        }
        out.println(counts);
        workers.shutdownNow();
        System.exit(0);
    }

    private static void breakLine(int line, String text, List<Mutant> into) {
        for (String[] swap : SWAPS) {
            for (int at = text.indexOf(swap[0]); at >= 0; at = text.indexOf(swap[0], at + 1)) {
                into.add(new Mutant(line, text, text.substring(0, at) + swap[1] + text.substring(at + swap[0].length())));
            }
        }
        Matcher number = Pattern.compile("(?<![\\w.\"])\\d+(?![\\w\"])").matcher(text);
        while (number.find()) {
            long value = Long.parseLong(number.group());
            for (long other : new long[] {value + 1, value - 1}) {
                into.add(new Mutant(line, text, text.substring(0, number.start()) + other + text.substring(number.end())));
            }
        }
        Matcher condition = Pattern.compile("^(\\s*(?:\\} else )?if )\\((.*)\\) \\{$").matcher(text);
        if (condition.matches()) {
            into.add(new Mutant(line, text, condition.group(1) + "((" + condition.group(2) + ") && !\"\".isEmpty()) {"));
            into.add(new Mutant(line, text, condition.group(1) + "((" + condition.group(2) + ") || \"\".isEmpty()) {"));
        }
        if (text.matches("^\\s+[\\w.\\[\\]* +<>|]+( [-+|&]?=|\\+\\+|--|\\().*;$") && !text.matches("^\\s+(private|static|final|return|throw|int|boolean|long) .*")) {
            into.add(new Mutant(line, text, ";"));
        }
    }

    private static Map<String, byte[]> classesUnder(Path folder) throws IOException {
        Map<String, byte[]> classes = new HashMap<>();
        try (var files = Files.list(folder)) {
            for (Path file : files.toList()) {
                String name = file.getFileName().toString();
                if (name.endsWith(".class") && !name.startsWith("ChimneyGang")) {
                    classes.put(name.substring(0, name.length() - 6), Files.readAllBytes(file));
                }
            }
        }
        return classes;
    }

    private static String endOf(Mutant mutant, List<String> lines, Map<String, byte[]> tests) throws Exception {
        StringBuilder source = new StringBuilder();
        for (int i = 0; i < lines.size(); i++) {
            source.append(i + 1 == mutant.line ? mutant.is : lines.get(i)).append('\n');
        }
        Map<String, byte[]> classes = compile(source.toString());
        if (classes == null) {
            return "not java";
        }
        classes.putAll(tests);
        String[] end = {"too slow"};
        Thread thread = new Thread(() -> end[0] = run(classes));
        thread.setDaemon(true);
        thread.start();
        thread.join(TimeUnit.SECONDS.toMillis(SECONDS));
        if (thread.isAlive()) {
            stop(thread);
        }
        return end[0];
    }

    @SuppressWarnings({"deprecation", "removal"})
    private static void stop(Thread thread) {
        thread.stop();
    }

    private static String run(Map<String, byte[]> classes) {
        ClassLoader loader = new ClassLoader(Mutants.class.getClassLoader().getParent()) {
            @Override
            protected Class<?> findClass(String name) throws ClassNotFoundException {
                byte[] bytes = classes.get(name);
                if (bytes == null) {
                    throw new ClassNotFoundException(name);
                }
                return defineClass(name, bytes, 0, bytes.length);
            }
        };
        try {
            Method wrong = loader.loadClass("Check").getDeclaredMethod("wrong");
            wrong.setAccessible(true);
            for (String test : TESTS) {
                Method sentences = loader.loadClass(test).getDeclaredMethod("sentences");
                sentences.setAccessible(true);
                sentences.invoke(null);
                if ((int) wrong.invoke(null) != 0) {
                    return "seen";
                }
            }
        } catch (ReflectiveOperationException | LinkageError e) {
            return "seen";
        }
        return "unseen";
    }

    private static Map<String, byte[]> compile(String source) throws IOException {
        JavaCompiler compiler = ToolProvider.getSystemJavaCompiler();
        Map<String, ByteArrayOutputStream> made = new HashMap<>();
        JavaFileObject file = new SimpleJavaFileObject(URI.create("string:///ChimneyGang.java"), JavaFileObject.Kind.SOURCE) {
            @Override
            public CharSequence getCharContent(boolean ignoreEncodingErrors) {
                return source;
            }
        };
        try (JavaFileManager standard = compiler.getStandardFileManager(null, null, null);
                JavaFileManager manager = new ForwardingJavaFileManager<JavaFileManager>(standard) {
                    @Override
                    public JavaFileObject getJavaFileForOutput(Location location, String name, JavaFileObject.Kind kind,
                            FileObject sibling) {
                        return new SimpleJavaFileObject(URI.create("string:///" + name + ".class"), kind) {
                            @Override
                            public OutputStream openOutputStream() {
                                ByteArrayOutputStream bytes = new ByteArrayOutputStream();
                                made.put(name, bytes);
                                return bytes;
                            }
                        };
                    }
                }) {
            if (!compiler.getTask(Writer.nullWriter(), manager, d -> { }, null, null, List.of(file)).call()) {
                return null;
            }
        }
        Map<String, byte[]> classes = new HashMap<>();
        made.forEach((name, bytes) -> classes.put(name, bytes.toByteArray()));
        return classes;
    }
}
