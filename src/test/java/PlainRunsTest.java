import java.lang.reflect.InvocationTargetException;
import java.lang.reflect.Method;
import java.util.ArrayList;
import java.util.Comparator;
import java.util.List;
import java.util.Random;

/** All promises: runs of calls by draws, each answer held against that of Plain. */
public final class PlainRunsTest {
    private static final int RUNS = 400;
    private static final int CALLS = 512;
    private static final int[] EDGES = {Integer.MIN_VALUE, -1000, -2, -1, 8, 9, 12, 13, 24, 25, 40, 41, 60, 61, 256,
        65541, 999999, 1000000, Integer.MAX_VALUE};
    // Calls that would too often undo what the run has built up.
    private static final List<String> RARE = List.of("cellar", "feed", "restore", "fault");

    private final Random random;
    private final JarNotes x = new JarNotes();
    private final Plain plain = new Plain();
    private final StringBuilder told = new StringBuilder();

    private PlainRunsTest(long seed) {
        random = new Random(seed);
    }

    public static void main(String[] args) throws ReflectiveOperationException {
        List<Method> calls = new ArrayList<>();
        for (Method m : JarNotes.class.getDeclaredMethods()) {
            if (java.lang.reflect.Modifier.isPublic(m.getModifiers())) {
                calls.add(m);
            }
        }
        // The order that reflection gives is not fixed, and the draws go by it.
        calls.sort(Comparator.comparing(Method::getName));
        Due.is("calls of the face", calls.size(), 38);
        for (int run = 0; run < RUNS; run++) {
            if (!new PlainRunsTest(run).go(run, calls)) {
                break;
            }
        }
        Due.end("PlainRunsTest");
    }

    private boolean go(int run, List<Method> calls) throws ReflectiveOperationException {
        int quiet = random.nextInt(30);
        for (int n = 0; n < CALLS; n++) {
            if (n >= quiet && (n == quiet || random.nextInt(90) == 0)) {
                String text = text();
                for (int i = 0; i < text.length() && n < CALLS - 2; i++, n++) {
                    if (!same(run, method(calls, "feed"), (int) text.charAt(i))) {
                        return false;
                    }
                }
                if (!same(run, method(calls, "cellar"))) {
                    return false;
                }
                continue;
            }
            if (plain.count(1) > 0 && n < CALLS - 20 && random.nextInt(40) == 0) {
                n += 16;
                if (!heardRow(run, calls)) {
                    return false;
                }
                continue;
            }
            Method m = calls.get(random.nextInt(calls.size()));
            if (RARE.contains(m.getName()) && random.nextInt(12) != 0) {
                continue;
            }
            if (!same(run, m, arguments(m))) {
                return false;
            }
        }
        return true;
    }

    /** A row that tells what is so now, that who() and reaches() find more than nothing. */
    private boolean heardRow(int run, List<Method> calls) throws ReflectiveOperationException {
        int n = 1 + random.nextInt(12);
        int place = random.nextInt(plain.count(1));
        if (!same(run, method(calls, "row"), 7, 0, n)) {
            return false;
        }
        for (int note = 0; note < n; note++) {
            int broken = Integer.bitCount(plain.chain(note, place, 0));
            if (!same(run, method(calls, "set"), 7, note, broken)) {
                return false;
            }
        }
        int jar = random.nextInt(plain.count(1));
        return same(run, method(calls, "who"), jar, 0, place, 7, 0, n)
            && same(run, method(calls, "who"), jar, 1, place, 7, 0, n)
            && same(run, method(calls, "reaches"), place, 7, 0, n);
    }

    private static Method method(List<Method> calls, String name) {
        for (Method m : calls) {
            if (m.getName().equals(name)) {
                return m;
            }
        }
        throw new IllegalStateException(name);
    }

    private boolean same(int run, Method m, Object... arguments) throws ReflectiveOperationException {
        told.append(m.getName()).append(java.util.Arrays.toString(arguments)).append(' ');
        Method other = Plain.class.getDeclaredMethod(m.getName(), m.getParameterTypes());
        long want = ((Number) other.invoke(plain, arguments)).longValue();
        long got;
        try {
            got = ((Number) m.invoke(x, arguments)).longValue();
        } catch (InvocationTargetException e) {
            Due.holds("run " + run + ": " + told + "threw " + e.getCause(), false);
            return false;
        }
        Due.is(got == want ? "" : "run " + run + ": " + told, got, want);
        return got == want;
    }

    private String text() {
        StringBuilder s = new StringBuilder("k").append(random.nextInt(10) == 0 ? 9 : random.nextInt(9)).append(';');
        int jars = random.nextInt(20) == 0 ? 9 : 1 + random.nextInt(8);
        int span = 1 + random.nextInt(12);
        int base = random.nextInt(12);
        String sorts = List.of("gthsc", "gthsc", "gh", "tg", "sc", "h", "c", "gtc").get(random.nextInt(8));
        for (int j = 0; j < jars; j++) {
            s.append(sorts.charAt(random.nextInt(sorts.length()))).append((base + random.nextInt(span)) % 12);
            s.append(',').append(1 + random.nextInt(random.nextBoolean() ? 60 : 6)).append(';');
        }
        if (random.nextInt(4) == 0) {
            s.setCharAt(random.nextInt(s.length()), "0159kgthsc,;xG \u00ff".charAt(random.nextInt(16)));
        }
        if (random.nextInt(10) == 0) {
            s.setLength(random.nextInt(s.length()));
        }
        return s.toString();
    }

    private Object[] arguments(Method m) {
        Object[] all = new Object[m.getParameterCount()];
        for (int a = 0; a < all.length; a++) {
            all[a] = random.nextInt(25) == 0 ? EDGES[random.nextInt(EDGES.length)] : usual(m.getName(), a);
        }
        return all;
    }

    private int usual(String call, int a) {
        int jar = random.nextInt(Math.max(1, plain.count(1)));
        int row = random.nextInt(4);
        int half = random.nextInt(2);
        int note = random.nextInt(12);
        switch (call + a) {
            case "row0": case "set0": case "copy0": case "copy2": case "song1": case "who3": case "reaches1": return row;
            case "drop0": return random.nextInt(8);
            case "row1": return random.nextInt(3);
            case "row2": return random.nextInt(8) + 4;
            case "set1": return random.nextInt(8);
            case "set2": return random.nextInt(8) == 0 ? random.nextInt() : random.nextInt(random.nextInt(12) + 1);
            case "copy1": case "copy3": return random.nextInt(6);
            case "copy4": return random.nextInt(6);
            case "feed0": return random.nextInt(256);
            case "years0": return 1 + random.nextInt(random.nextInt(24) + 1);
            case "sneeze0": case "seal1": case "chain0": case "guard0": case "mould1": return note;
            case "seal2": return 1 + random.nextInt(60);
            case "reach0": case "guard2": return random.nextInt(9);
            case "jar1": case "stand0": return random.nextInt(4);
            case "kept0": case "drawn0": return random.nextInt(61);
            case "chain2": case "worst0": case "guard3": case "changes0": case "tuned1": case "spared0": case "alike0":
            case "song0": case "who1": case "mould4": case "drawn2": case "image0": case "restore0": case "ask1":
                return half;
            case "song2": case "who4": case "reaches2": return random.nextInt(4);
            case "song3": return 1 + random.nextInt(6);
            case "who5": case "reaches3": return 1 + random.nextInt(random.nextInt(7) + 1);
            case "mould3": return random.nextInt(11);
            case "drawn1": return 1 + random.nextInt(999999);
            case "as1": return random.nextInt(6);
            case "trace0": return random.nextInt(8);
            case "count0": return random.nextInt(8);
            default: return jar;
        }
    }
}
