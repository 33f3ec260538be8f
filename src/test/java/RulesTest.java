import java.io.IOException;
import java.lang.reflect.Constructor;
import java.lang.reflect.Field;
import java.lang.reflect.Method;
import java.lang.reflect.Modifier;
import java.nio.charset.StandardCharsets;
import java.nio.file.Files;
import java.nio.file.Path;
import java.util.Arrays;
import java.util.Set;
import java.util.TreeSet;
import java.util.regex.Matcher;
import java.util.regex.Pattern;

/** The face as the document writes it, and what LANGUAGE.md says that can be seen from outside. */
public final class RulesTest {
    private static final String[] FACE = {
        "int row(int, int, int)", "int set(int, int, int)", "int copy(int, int, int, int, int)", "int drop(int)",
        "int feed(int)", "int cellar()", "int fault()", "int undo()", "int years(int)", "int sneeze(int, int)",
        "int open(int)", "int change(int, int)", "int seal(int, int, int)", "int reach(int)", "int jar(int, int)",
        "int stand(int)", "int chain(int, int, int)", "int worst(int)", "int when(int)", "int kept(int)",
        "int guard(int, int, int, int)", "int changes(int)", "int tuned(int, int)", "int spared(int)",
        "int alike(int)", "int song(int, int, int, int)", "int who(int, int, int, int, int, int)",
        "int reaches(int, int, int, int)", "long mould(int, int, int, int, int)", "int drawn(int, int, int)",
        "int image(int)", "int restore(int)", "int kind(int)", "int as(int, int)", "int ask(int, int)",
        "int trace(int)", "int count(int)", "int status()",
    };

    public static void main(String[] args) throws IOException {
        constants();
        methods();
        fields();
        classesInside();
        words();
        Due.end("RulesTest");
    }

    private static void constants() {
        Due.is("NONE", JarNotes.NONE, -1000000);
        Due.is("BAD", JarNotes.BAD, -1000001);
        Due.is("STATE", JarNotes.STATE, -1000002);
        Due.is("FULL", JarNotes.FULL, -1000003);
        Due.holds("the class is public and final",
            Modifier.isPublic(JarNotes.class.getModifiers()) && Modifier.isFinal(JarNotes.class.getModifiers()));
        Constructor<?>[] all = JarNotes.class.getDeclaredConstructors();
        Due.is("constructors", all.length, 1);
        Due.holds("it is public and takes nothing",
            Modifier.isPublic(all[0].getModifiers()) && all[0].getParameterCount() == 0);
    }

    private static void methods() {
        Set<String> face = new TreeSet<>();
        Set<String> names = new TreeSet<>();
        for (Method m : JarNotes.class.getDeclaredMethods()) {
            if (!Modifier.isPrivate(m.getModifiers())) {
                Due.holds(m.getName() + " is public", Modifier.isPublic(m.getModifiers()));
                face.add(signature(m));
                names.add(m.getName());
            }
        }
        Due.holds("the face is the document's: " + face, face.equals(new TreeSet<>(Arrays.asList(FACE))));
        for (Class<?> c : classes()) {
            for (Method m : c.getDeclaredMethods()) {
                boolean hidden = c != JarNotes.class || Modifier.isPrivate(m.getModifiers());
                Due.holds(c + ": " + m.getName() + " bears a public name", !(hidden && names.contains(m.getName())));
                Due.holds(m.getName() + " takes seven at most", m.getParameterCount() <= 7);
            }
        }
    }

    private static String signature(Method m) {
        String all = Arrays.toString(m.getParameterTypes());
        return m.getReturnType() + " " + m.getName() + "(" + all.substring(1, all.length() - 1) + ")";
    }

    private static Class<?>[] classes() {
        Class<?>[] inside = JarNotes.class.getDeclaredClasses();
        Class<?>[] all = Arrays.copyOf(inside, inside.length + 1);
        all[inside.length] = JarNotes.class;
        return all;
    }

    private static void fields() {
        Set<String> open = new TreeSet<>();
        for (Class<?> c : classes()) {
            int own = 0;
            for (Field f : c.getDeclaredFields()) {
                boolean fixed = Modifier.isStatic(f.getModifiers());
                Due.holds(f + " is final, if it is static", !fixed || Modifier.isFinal(f.getModifiers()));
                own += fixed ? 0 : 1;
                if (c == JarNotes.class && !Modifier.isPrivate(f.getModifiers())) {
                    open.add(f.getName());
                }
            }
            Due.holds(c + " has some twenty fields at most", own <= 20);
        }
        Due.holds("constants of the face", open.equals(new TreeSet<>(Arrays.asList("NONE", "BAD", "STATE", "FULL"))));
    }

    private static void classesInside() {
        Due.holds("some twelve classes at most", classes().length <= 12);
        for (Class<?> c : JarNotes.class.getDeclaredClasses()) {
            Due.holds(c + " is static", Modifier.isStatic(c.getModifiers()));
            Due.holds(c + " is not public", !Modifier.isPublic(c.getModifiers()));
        }
    }

    private static void words() throws IOException {
        String path = System.getenv().getOrDefault("JARNOTES_SOURCE", "src/main/java/JarNotes.java");
        String text = Files.readString(Path.of(path), StandardCharsets.ISO_8859_1);
        String code = text.replaceAll("(?s)/\\*.*?\\*/", " ").replaceAll("//[^\n]*", " ");
        String[] never = {"throw", "throws", "try", "catch", "synchronized", "assert", "package", "double", "float",
            "Exact", "->", "::", "static\\s*\\{", "System\\.(?!arraycopy)", "Random", "Thread", "native"};
        for (String word : never) {
            Matcher m = Pattern.compile(Character.isLetter(word.charAt(0)) ? "\\b" + word : word).matcher(code);
            Due.holds("the code is without " + word, !m.find());
        }
        Due.holds("no other library is brought in",
            !Pattern.compile("\\bimport\\s+(?!java\\.util\\.(Arrays|ArrayList|List|Iterator);)").matcher(code).find());
        Due.holds("methods stay short", longestMethod(text, 4) <= 60 && longestMethod(text, 8) <= 60);
    }

    // By the indent alone: a method of the class stands at 4, one of a class inside at 8.
    private static int longestMethod(String text, int indent) {
        String left = " ".repeat(indent);
        int begun = -1;
        int longest = 0;
        String[] lines = text.split("\n");
        for (int i = 0; i < lines.length; i++) {
            if (lines[i].matches(left + "[a-zA-Z].*\\) \\{")) {
                begun = i;
            }
            if (lines[i].equals(left + "}") && begun >= 0) {
                longest = Math.max(longest, i - begun + 1);
                begun = -1;
            }
        }
        Due.holds("there are methods at " + indent, longest > 1);
        return longest;
    }
}
