import java.io.IOException;
import java.io.PrintWriter;
import java.io.StringWriter;
import java.lang.reflect.Constructor;
import java.lang.reflect.Field;
import java.lang.reflect.Method;
import java.lang.reflect.Modifier;
import java.nio.file.Files;
import java.nio.file.Path;
import java.util.ArrayList;
import java.util.List;
import java.util.Set;
import java.util.TreeSet;
import java.util.regex.Matcher;
import java.util.regex.Pattern;
import java.util.spi.ToolProvider;

/** The rules of ../shared/LANGUAGE.md that can be read off the source and off what javac made of it. */
public final class LanguageTest {
    private static final Path SOURCE = Path.of("src/main/java/ChimneyGang.java");
    private static final Path DOCUMENT = Path.of("../shared/DOC.md");
    /** What the class uses of the library; a new entry is to be looked up in rule 4 first. */
    private static final Set<String> LIBRARY = Set.of("java/lang/Object.\"<init>\"", "java/lang/String.length",
        "java/lang/String.charAt", "java/lang/Math.max", "java/lang/Math.min", "java/lang/Math.floorDiv",
        "java/lang/Integer.bitCount", "java/lang/System.arraycopy", "java/util/Arrays.fill",
        "java/util/NoSuchElementException.\"<init>\"", "java/lang/IllegalArgumentException.\"<init>\"");

    private static int wrong = 0;

    private LanguageTest() {
    }

    public static void main(String[] args) throws Exception {
        face();
        classes();
        source();
        compiled();
        System.out.println(wrong == 0 ? "the rules are kept" : wrong + " breaches");
        if (wrong != 0) {
            System.exit(1);
        }
    }

    private static void must(boolean so, String what) {
        if (!so) {
            wrong++;
            System.out.println(what);
        }
    }

    private static String signature(Method method) {
        StringBuilder text = new StringBuilder(method.getReturnType() + " " + method.getName() + "(");
        for (Class<?> type : method.getParameterTypes()) {
            text.append(type).append(',');
        }
        text.append(')');
        for (Class<?> type : method.getExceptionTypes()) {
            text.append(' ').append(type.getSimpleName());
        }
        return text.toString();
    }

    /** Rule 1 and the document's public face. */
    private static void face() throws IOException {
        Set<String> due = new TreeSet<>();
        Set<String> names = new TreeSet<>();
        Matcher told = Pattern.compile("^    public (\\w+) (\\w+)\\(([^)]*)\\)(?: throws ([\\w, ]+))?;$", Pattern.MULTILINE)
            .matcher(Files.readString(DOCUMENT));
        while (told.find()) {
            StringBuilder text = new StringBuilder(told.group(1) + " " + told.group(2) + "(");
            for (String parameter : told.group(3).isEmpty() ? new String[0] : told.group(3).split(", ")) {
                text.append(parameter.split(" ")[0]).append(',');
            }
            text.append(')');
            for (String thrown : told.group(4) == null ? new String[0] : told.group(4).split(", ")) {
                text.append(' ').append(thrown);
            }
            due.add(text.toString());
            names.add(told.group(2));
        }
        must(due.size() == 50, "the document's face has 50 methods, read were " + due.size());
        Set<String> got = new TreeSet<>();
        for (Method method : ChimneyGang.class.getDeclaredMethods()) {
            if (!Modifier.isPrivate(method.getModifiers())) {
                got.add(signature(method));
            } else {
                must(!names.contains(method.getName()), "rule 1: a private method " + method.getName());
            }
        }
        must(got.equals(due), "rule 1: the face is " + got + ", due is " + due);
        for (Field field : ChimneyGang.class.getDeclaredFields()) {
            must(Modifier.isPrivate(field.getModifiers()) || field.getName().equals("NONE"), "rule 1: " + field);
        }
        Constructor<?>[] constructors = ChimneyGang.class.getDeclaredConstructors();
        must(constructors.length == 1 && Modifier.isPublic(constructors[0].getModifiers()), "rule 1: constructors");
        must(Modifier.isFinal(ChimneyGang.class.getModifiers()), "rule 1: final");
        for (Class<?> inside : ChimneyGang.class.getDeclaredClasses()) {
            for (Method method : inside.getDeclaredMethods()) {
                must(!names.contains(method.getName()), "a method of the face's name: " + method);
            }
        }
    }

    /** Rules 2, 3, 5, 11. */
    private static void classes() {
        List<Class<?>> all = new ArrayList<>(List.of(ChimneyGang.class.getDeclaredClasses()));
        must(all.size() <= 11, "rule 11: " + all.size() + " classes inside");
        for (Class<?> inside : all) {
            must(Modifier.isPrivate(inside.getModifiers()) && Modifier.isStatic(inside.getModifiers()), "rule 2: " + inside);
        }
        all.add(ChimneyGang.class);
        for (Class<?> it : all) {
            int fields = 0;
            for (Field field : it.getDeclaredFields()) {
                boolean fixed = Modifier.isStatic(field.getModifiers());
                must(!fixed || Modifier.isFinal(field.getModifiers()), "rule 5: " + field);
                fields += fixed ? 0 : 1;
            }
            must(fields <= 20, "rule 11: " + fields + " fields in " + it);
            for (Method method : it.getDeclaredMethods()) {
                must(method.getParameterCount() <= 7, "rule 11: " + method);
            }
        }
    }

    /** Rules 6, 10, 11: what must not stand in the source, and how long methods are. */
    private static void source() throws IOException {
        List<String> lines = Files.readAllLines(SOURCE);
        String[] never = {"->", "::", "catch", "finally", "synchronized", " assert ", "instanceof", "static {", "\" +",
            "+ \"", "while (true)", "for (;;)", "Integer.MAX", "Integer.MIN"};
        int begun = 0;
        for (int i = 0; i < lines.size(); i++) {
            String line = lines.get(i);
            for (String sign : never) {
                must(!line.contains(sign), "line " + (i + 1) + " has " + sign);
            }
            must(line.length() <= 120, "line " + (i + 1) + " is long");
            must(line.chars().allMatch(c -> c >= 32 && c < 127), "line " + (i + 1) + " has a sign beyond 127");
            if (line.startsWith("import ")) {
                must(line.equals("import java.util.Arrays;") || line.equals("import java.util.NoSuchElementException;"),
                    "rule 4: " + line);
            }
            if (line.matches("(    |        )(?! ).*\\) (throws .*)?\\{") && !line.contains(" class ")) {
                begun = i;
            }
            if (line.equals("        }") || line.equals("    }")) {
                must(i - begun <= 60 || line.equals("    }"), "rule 11: a method of " + (i - begun) + " lines at " + begun);
            }
        }
    }

    /** Rules 4, 6, 12: what is called, thrown and made, as javac wrote it. */
    private static void compiled() throws Exception {
        ToolProvider javap = ToolProvider.findFirst("javap").orElse(null);
        if (javap == null) {
            System.out.println("no javap here: what is compiled is not looked at");
            return;
        }
        List<String> names = new ArrayList<>(List.of("ChimneyGang"));
        for (Class<?> inside : ChimneyGang.class.getDeclaredClasses()) {
            names.add(inside.getName());
        }
        Path classes = Path.of(ChimneyGang.class.getProtectionDomain().getCodeSource().getLocation().toURI());
        for (String name : names) {
            StringWriter out = new StringWriter();
            javap.run(new PrintWriter(out), new PrintWriter(out), "-c", "-p", "-cp", classes.toString(), name);
            String method = "";
            for (String line : out.toString().split("\n")) {
                if (line.matches("  \\S.*\\).*;") || line.equals("  static {};")) {
                    method = line;
                }
                look(name, method, line);
            }
        }
    }

    private static void look(String name, String method, String line) {
        boolean makes = method.contains(" " + name + "(") || method.contains("  " + name + "(");
        Matcher call = Pattern.compile("// (?:Interface)?Method ([\\w/]+\\.[\\w\"<>]+):").matcher(line);
        if (call.find() && call.group(1).startsWith("java/")) {
            must(LIBRARY.contains(call.group(1)), "rule 4: " + name + " calls " + call.group(1));
        }
        must(!line.contains("invokedynamic"), "rule 2: " + name + " " + method + line);
        must(!line.matches(".*\\b[df](add|sub|mul|div|rem|load|store).*"), "rule 3: " + name + " " + method + line);
        if (line.matches(".*: (a|multia)?newarray.*")) {
            must(makes || method.contains("static {}"), "rule 12: an array is made in " + name + method);
        }
        if (line.matches(".*: new .*") && !line.contains("Exception")) {
            must(makes, "rule 12: an object is made in " + name + method);
        }
        if (line.contains("athrow")) {
            must(!makes, "rule 6: a throw in a constructor of " + name);
        }
        must(!line.contains("Exception table"), "rule 6: a catch in " + name + method);
    }
}
