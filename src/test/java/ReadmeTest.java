import java.io.IOException;
import java.lang.reflect.InvocationTargetException;
import java.lang.reflect.Method;
import java.lang.reflect.Modifier;
import java.net.URL;
import java.net.URLClassLoader;
import java.nio.charset.StandardCharsets;
import java.nio.file.Files;
import java.nio.file.Path;
import java.util.ArrayList;
import java.util.Arrays;
import java.util.List;
import java.util.Map;
import java.util.Random;
import java.util.Set;
import java.util.TreeMap;
import java.util.TreeSet;
import java.util.regex.Matcher;
import java.util.regex.Pattern;
import java.util.stream.Stream;
import javax.tools.JavaCompiler;
import javax.tools.ToolProvider;

/** README.md: its code is compiled and answers as it says there, and its tables of calls are so. */
public final class ReadmeTest {
    private static final Pattern ANSWERED =
        Pattern.compile("(x\\.(\\w+)\\(.*?\\)); *// (-?\\d+|NONE|BAD|STATE|FULL)(:.*)?");
    private static final Map<String, Integer> NUMBERS = Map.of("NONE", Due.NONE, "BAD", Due.BAD, "STATE", Due.STATE,
        "FULL", Due.FULL, "NULL", Due.NULL, "PLACE", Due.PLACE, "KIND", Due.KIND, "SIZE", Due.SIZE, "STORE", Due.STORE);
    private static final int[] USUAL = {0, 0, 0, 1, 1, 1, 2, 3, 4, 5, 9};
    private static final int[] EDGES = {Integer.MIN_VALUE, -1, 7, 8, 11, 12, 13, 24, 25, 40, 41, 60, 61, 255, 256,
        999999, 1000000, Integer.MAX_VALUE};
    private static final int DRAWS = 1500;

    private static Readme readme;
    private static String document;

    private ReadmeTest() {
    }

    public static void main(String[] args) throws IOException, ReflectiveOperationException {
        readme = new Readme(Path.of(System.getenv().getOrDefault("JARNOTES_README", "README.md")));
        document = Files.readString(Path.of(System.getenv().getOrDefault("JARNOTES_DOC", "../shared/DOC.md")),
            StandardCharsets.UTF_8);
        code();
        calls();
        numbers();
        refusals();
        tests();
        Due.end("ReadmeTest");
    }

    // ---- the code

    private static void code() throws IOException, ReflectiveOperationException {
        Path out = Files.createTempDirectory("readme");
        List<List<Matcher>> due = new ArrayList<>();
        Files.writeString(out.resolve("ReadmeCode.java"), program(due));
        JavaCompiler compiler = ToolProvider.getSystemJavaCompiler();
        int wrong = compiler.run(null, null, null, "-cp", System.getProperty("java.class.path"), "-d", out.toString(),
            out.resolve("ReadmeCode.java").toString());
        Due.is("errors by compiling the code in README", wrong, 0);
        Due.holds("README has code with answers", due.size() > 0);
        if (wrong == 0) {
            try (URLClassLoader loader = new URLClassLoader(new URL[] {out.toUri().toURL()})) {
                run(loader.loadClass("ReadmeCode"), due);
            }
        }
        try (Stream<Path> made = Files.list(out)) {
            for (Path file : made.toList()) {
                Files.delete(file);
            }
        }
        Files.delete(out);
    }

    // A block that begins with "static" is a method; of each other one the answers are gathered.
    private static String program(List<List<Matcher>> due) {
        StringBuilder all = new StringBuilder("public final class ReadmeCode {\n");
        for (String block : readme.code()) {
            if (block.startsWith("static ")) {
                all.append(block);
                continue;
            }
            all.append("public static long[] block").append(due.size()).append("() {\n");
            List<Matcher> answers = new ArrayList<>();
            StringBuilder body = new StringBuilder();
            for (String line : block.split("\n")) {
                Matcher m = ANSWERED.matcher(line);
                if (m.matches()) {
                    body.append("got[").append(answers.size()).append("] = ").append(m.group(1)).append(";\n");
                    answers.add(m);
                } else {
                    Due.holds("README has the answer of " + line, !line.startsWith("x."));
                    body.append(line).append('\n');
                }
            }
            all.append("long[] got = new long[").append(answers.size()).append("];\n").append(body);
            all.append("return got;\n}\n");
            due.add(answers);
        }
        return all.append("}\n").toString();
    }

    private static void run(Class<?> code, List<List<Matcher>> due) throws ReflectiveOperationException {
        Set<String> shown = new TreeSet<>();
        for (int b = 0; b < due.size(); b++) {
            long[] got = (long[]) code.getMethod("block" + b).invoke(null);
            for (int n = 0; n < got.length; n++) {
                Matcher m = due.get(b).get(n);
                Integer named = NUMBERS.get(m.group(3));
                Due.is("README, code " + b + ": " + m.group(1), got[n],
                    named == null ? Long.parseLong(m.group(3)) : named);
                tellsName(m);
                shown.add(m.group(2));
            }
        }
        Due.holds("README shows every call by code, not only " + shown, shown.equals(face().keySet()));
    }

    // A finding that is told as a number is named behind it.
    private static void tellsName(Matcher m) {
        for (Map.Entry<String, Integer> name : NUMBERS.entrySet()) {
            if (m.group(3).equals(name.getValue().toString())) {
                Due.holds(m.group(1) + " is told as " + name.getKey(), m.group(4) != null
                    && m.group(4).startsWith(": " + name.getKey()));
            }
        }
    }

    // ---- the tables

    /** The calls of the face as the document writes them, by their names. */
    private static Map<String, String> face() {
        Map<String, String> all = new TreeMap<>();
        Matcher m = Pattern.compile("public (?:int|long) (\\w+)\\((.*?)\\);").matcher(document);
        while (m.find()) {
            all.put(m.group(1), m.group(1) + "(" + m.group(2).replaceAll("int (\\w+)", "$1") + ")");
        }
        return all;
    }

    private static void calls() {
        Map<String, String> told = new TreeMap<>();
        for (Map.Entry<String, Readme.Call> call : readme.calls.entrySet()) {
            told.put(call.getKey(), call.getValue().form());
        }
        Due.holds("README tells of the calls of the document, not of " + told, told.equals(face()));
    }

    private static void numbers() {
        Map<String, String> told = readme.found("(?m)^\\| `?([A-Z]+)`? \\| (-\\d+) \\|");
        Due.is("answers that README has a number for", told.size(), NUMBERS.size());
        for (Map.Entry<String, String> one : told.entrySet()) {
            Due.is("README: " + one.getKey(), Long.parseLong(one.getValue()), NUMBERS.getOrDefault(one.getKey(), 0));
        }
    }

    // ---- which refusals a call has: by draws, in objects that stand differently

    private static void refusals() throws ReflectiveOperationException {
        for (Method m : JarNotes.class.getDeclaredMethods()) {
            Readme.Call told = readme.calls.get(m.getName());
            if (!Modifier.isPublic(m.getModifiers()) || told == null) {
                continue;
            }
            Set<String> empty = answersIn(0, m);
            Set<String> seen = new TreeSet<>(empty);
            for (int state = 1; state <= 5; state++) {
                seen.addAll(answersIn(state, m));
            }
            boolean ahead = seen.contains("BAD") && empty.equals(Set.of("STATE"));
            Due.is("README: " + m.getName() + " is marked", told.starred() ? 1 : 0, ahead ? 1 : 0);
            boolean none = seen.remove("NONE");
            Due.is("README: " + m.getName() + " tells of NONE", told.does().contains("NONE") ? 1 : 0, none ? 1 : 0);
            boolean below = seen.remove("below 0");
            Due.holds(m.getName() + " answers below 0",
                !below || m.getName().equals("set") || m.getName().equals("ask"));
            seen.remove("0 or more");
            Set<String> refused = new TreeSet<>(Arrays.asList(told.refusals().split(", ")));
            refused.remove("");
            Due.holds("README: " + m.getName() + " is refused by " + refused + ", seen are " + seen,
                refused.equals(seen));
        }
    }

    private static Set<String> answersIn(int state, Method m) throws ReflectiveOperationException {
        Random random = new Random(state);
        Set<String> seen = new TreeSet<>();
        for (int n = 0; n < (m.getParameterCount() == 0 ? 1 : DRAWS); n++) {
            Object[] arguments = new Object[m.getParameterCount()];
            for (int a = 0; a < arguments.length; a++) {
                int[] from = random.nextInt(6) == 0 ? EDGES : USUAL;
                arguments[a] = from[random.nextInt(from.length)];
            }
            try {
                seen.add(name(((Number) m.invoke(object(state), arguments)).longValue()));
            } catch (InvocationTargetException e) {
                Due.holds(m.getName() + Arrays.toString(arguments) + " threw " + e.getCause(), false);
            }
        }
        return seen;
    }

    private static String name(long answer) {
        for (Map.Entry<String, Integer> one : NUMBERS.entrySet()) {
            if (answer == one.getValue()) {
                return one.getKey();
            }
        }
        if (answer >= -1000190 && answer <= -1000100) {
            return "a fault";
        }
        return answer < 0 ? "below 0" : "0 or more";
    }

    private static JarNotes object(int state) {
        JarNotes x = new JarNotes();
        if (state == 0) {
            return x;
        }
        Due.read(x, "k2;g4,9;t5,3;h4,9;s9,2;c10,6;");
        Due.fill(x, 0, 0, 4, 9, 0, 12);
        Due.fill(x, 1, 1, 4, 9, 10);
        x.ask(1, 0);
        if (state == 2) {
            x.image(0);
            x.sneeze(4, 0);
            x.open(4);
            x.years(2);
        }
        if (state == 3) {
            for (int n = 0; n < 41; n++) {
                x.years(24);
            }
        }
        if (state == 4) {
            for (int n = 0; n < 90; n++) {
                x.feed('k');
            }
        }
        if (state == 5) {
            Due.read(x, "k8;s1,9;s2,9;");
            Due.feed(x, "k8;s1,9;");
        }
        return x;
    }

    // ---- the tests that it tells of

    private static void tests() throws IOException {
        Path folder = Path.of(System.getenv().getOrDefault("JARNOTES_TESTS", "src/test/java"));
        Set<String> there = new TreeSet<>();
        try (Stream<Path> files = Files.list(folder)) {
            for (Path file : files.toList()) {
                Matcher m = Pattern.compile("(\\w+Test)\\.java").matcher(file.getFileName().toString());
                if (m.matches()) {
                    there.add(m.group(1));
                }
            }
        }
        Set<String> told = readme.found("(?m)^\\| (\\w+Test) \\|").keySet();
        Due.holds("README tells of the tests " + there + ", not of " + told, there.equals(told));
    }
}
