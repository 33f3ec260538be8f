import java.io.IOException;
import java.lang.reflect.Field;
import java.lang.reflect.InvocationTargetException;
import java.lang.reflect.Method;
import java.lang.reflect.Modifier;
import java.nio.file.Path;
import java.util.Arrays;
import java.util.Comparator;
import java.util.Set;
import java.util.TreeSet;

/**
 * Every sentence of the document, each with a test of its own that quotes it (Says): what is quoted must
 * stand in the document, and no word under "Terms" and the promises may go without a test.
 */
public final class EdgesTest {
    private static final Class<?>[] EDGES = {RefusalEdges.class, RowEdges.class, TextEdges.class, SneezeEdges.class,
        ActEdges.class, ForetoldEdges.class, SearchEdges.class, GuessEdges.class, AskedEdges.class};

    private static Document document;
    private static int tests = 0;

    private EdgesTest() {
    }

    public static void main(String[] args) throws IOException, IllegalAccessException {
        document = new Document(Path.of(System.getenv().getOrDefault("JARNOTES_DOC", "../shared/DOC.md")));
        Due.is("promises that were found in the document", document.promises(), 39);
        face();
        for (Class<?> edges : EDGES) {
            Method[] methods = edges.getDeclaredMethods();
            Arrays.sort(methods, Comparator.comparing(Method::getName));
            for (Method m : methods) {
                if (!Modifier.isPrivate(m.getModifiers()) && !m.isSynthetic()) {
                    test(m);
                }
            }
        }
        Due.under("");
        Due.holds("some words have no test:" + document.unquoted(), document.unquoted().isEmpty());
        System.out.println(tests + " tests of sentences");
        Due.end("EdgesTest");
    }

    private static void face() throws IllegalAccessException {
        Set<String> is = new TreeSet<>();
        for (Method m : JarNotes.class.getDeclaredMethods()) {
            if (Modifier.isPublic(m.getModifiers())) {
                String types = Arrays.toString(m.getParameterTypes());
                is.add(m.getReturnType() + " " + m.getName() + "(" + types.substring(1, types.length() - 1) + ")");
            }
        }
        for (Field f : JarNotes.class.getFields()) {
            is.add(f.getName() + " = " + f.getInt(null));
        }
        Due.is("of the face are in the document", document.face().size(), 42);
        Due.holds("the face is that of the document, not " + is, is.equals(document.face()));
    }

    private static void test(Method m) throws IllegalAccessException {
        Says[] all = m.getAnnotationsByType(Says.class);
        String name = m.getDeclaringClass().getName() + "." + m.getName();
        Due.holds(name + " quotes the document", all.length > 0);
        StringBuilder words = new StringBuilder(name);
        for (Says says : all) {
            Due.holds(name + ": '" + says.words() + "' stands in the document",
                document.quotes(says.promise(), says.words()));
            words.append(" (").append(says.promise()).append(": ").append(says.words()).append(")");
        }
        Due.under(words.append(": ").toString());
        int before = Due.answers();
        try {
            m.invoke(null);
        } catch (InvocationTargetException e) {
            Due.holds("threw " + e.getCause(), false);
        }
        Due.holds("it asks for answers", Due.answers() > before);
        Due.under("");
        tests++;
    }
}
