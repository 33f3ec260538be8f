import java.math.BigInteger;
import java.util.ArrayList;
import java.util.Arrays;
import java.util.Collections;
import java.util.List;
import java.util.regex.Matcher;
import java.util.regex.Pattern;

/**
 * The document once more, written as slowly and as plainly as it reads, to hold JarNotes against:
 * no bits while it works, no shortcuts, a new copy of everything for every guess.
 */
final class Plain {
    static final class Jar {
        final char sort;
        final int note;
        final int years;
        final int place;
        final String how;

        Jar(char sort, int note, int years, int place, String how) {
            this.sort = sort;
            this.note = note;
            this.years = years;
            this.place = place;
            this.how = how;
        }

        boolean whole() {
            return how.equals("WHOLE");
        }

        Jar is(String now) {
            return new Jar(sort, note, years, place, now);
        }

        Jar at(int where) {
            return new Jar(sort, note, years, where, how);
        }

        Jar sealed(int n, int y) {
            return new Jar(sort, n, y, place, "WHOLE");
        }

        Jar of(int n) {
            return new Jar(sort, n, years, place, how);
        }

        Jar like(char s) {
            return new Jar(s, note, years, place, how);
        }

        Jar older() {
            if (!whole()) {
                return this;
            }
            return new Jar(sort, note, years - 1, place, years == 1 ? "MOULDY" : "WHOLE");
        }

        boolean breaksBy(List<Integer> heard) {
            int same = 0;
            boolean near = false;
            boolean five = false;
            boolean six = false;
            for (int h : heard) {
                int up = Math.floorMod(h - note, 12);
                int down = Math.floorMod(note - h, 12);
                int apart = up < down ? up : down;
                same += apart == 0 ? 1 : 0;
                near |= apart <= 1;
                five |= apart == 5;
                six |= apart == 6;
            }
            if (sort == 'g') {
                return same > 0;
            }
            if (sort == 't') {
                return near;
            }
            if (sort == 'h') {
                return same >= 2;
            }
            return sort == 's' ? five : five || six;
        }
    }

    static final class World {
        final List<Jar> jars;
        final int year;
        final int reach;

        World(List<Jar> jars, int year, int reach) {
            this.jars = Collections.unmodifiableList(new ArrayList<>(jars));
            this.year = year;
            this.reach = reach;
        }

        World with(int j, Jar jar) {
            List<Jar> all = new ArrayList<>(jars);
            all.set(j, jar);
            return new World(all, year, reach);
        }

        World older() {
            List<Jar> all = new ArrayList<>();
            for (Jar j : jars) {
                all.add(j.older());
            }
            return new World(all, year + 1, reach);
        }

        World swapped(int a, int b) {
            int pa = jars.get(a).place;
            int pb = jars.get(b).place;
            return with(a, jars.get(a).at(pb)).with(b, jars.get(b).at(pa));
        }

        /** The rounds of a sneeze: in each, who breaks. */
        List<List<Integer>> rounds(int note, int place) {
            List<List<Integer>> all = new ArrayList<>();
            boolean[] gone = new boolean[jars.size()];
            List<int[]> sounds = new ArrayList<>();
            sounds.add(new int[] {note, place});
            while (true) {
                List<Integer> now = new ArrayList<>();
                for (int j = 0; j < jars.size(); j++) {
                    Jar jar = jars.get(j);
                    if (!jar.whole() || gone[j]) {
                        continue;
                    }
                    List<Integer> heard = new ArrayList<>();
                    for (int[] s : sounds) {
                        if (Math.abs(s[1] - jar.place) <= reach) {
                            heard.add(s[0]);
                        }
                    }
                    if (jar.breaksBy(heard)) {
                        now.add(j);
                    }
                }
                if (now.isEmpty()) {
                    return all;
                }
                all.add(now);
                sounds.clear();
                for (int j : now) {
                    gone[j] = true;
                    sounds.add(new int[] {jars.get(j).note, jars.get(j).place});
                }
            }
        }

        List<Integer> broken(int note, int place) {
            List<Integer> all = new ArrayList<>();
            for (List<Integer> r : rounds(note, place)) {
                all.addAll(r);
            }
            return all;
        }

        World sneezed(int note, int place) {
            World w = this;
            for (int j : broken(note, place)) {
                w = w.with(j, w.jars.get(j).is("BROKEN"));
            }
            return w;
        }

        int[] worst() {
            int[] best = null;
            for (int note = 0; note < 12; note++) {
                for (int place = 0; place < jars.size(); place++) {
                    int n = broken(note, place).size();
                    if (best == null || n > best[1]) {
                        best = new int[] {100 * note + place, n};
                    }
                }
            }
            return best;
        }

        int those(String how) {
            int bits = 0;
            for (int j = 0; j < jars.size(); j++) {
                bits += jars.get(j).how.equals(how) ? 1 << j : 0;
            }
            return bits;
        }
    }

    private static final int NONE = -1000000, BAD = -1000001, STATE = -1000002, FULL = -1000003;
    private static final String SORTS = "?gthsc";
    private static final List<String> HOWS = List.of("WHOLE", "BROKEN", "MOULDY", "OPENED");

    private final int[][] rows = new int[8][];
    private final int[] lanes = new int[8];
    private final StringBuilder tape = new StringBuilder();
    private World now = null;
    private final ArrayList<World> past = new ArrayList<>();
    private final World[] images = new World[2];
    private final List<Integer> trace = new ArrayList<>();
    private int fault = 0;
    private int status = 0;

    private static boolean out(int v, int least, int most) {
        return v < least || v > most;
    }

    private boolean noJar(int j) {
        return now == null || out(j, 0, now.jars.size() - 1);
    }

    private int finding(int number) {
        status = number;
        return -1000010 - number;
    }

    private int none(int answer) {
        status = 0;
        return answer;
    }

    private static int bits(List<Integer> numbers) {
        int b = 0;
        for (int n : numbers) {
            b |= 1 << n;
        }
        return b;
    }

    private void act(World next) {
        past.add(now);
        if (past.size() > 24) {
            past.remove(0);
        }
        now = next;
    }

    int row(int row, int lane, int n) {
        if (out(row, 0, 7) || out(lane, 0, 2) || n > 40) {
            return BAD;
        }
        if (n < 0) {
            return finding(4);
        }
        rows[row] = new int[n];
        lanes[row] = lane;
        return none(n);
    }

    int set(int row, int i, int v) {
        if (out(row, 0, 7)) {
            return BAD;
        }
        if (rows[row] == null) {
            return finding(1);
        }
        if (out(i, 0, rows[row].length - 1)) {
            return finding(2);
        }
        int width = lanes[row] == 0 ? 24 : lanes[row] == 1 ? 16 : 0;
        rows[row][i] = v << width >> width;
        return none(rows[row][i]);
    }

    int copy(int a, int i, int b, int j, int n) {
        if (out(a, 0, 7) || out(b, 0, 7)) {
            return BAD;
        }
        if (rows[a] == null || rows[b] == null) {
            return finding(1);
        }
        if (lanes[a] != lanes[b]) {
            return finding(5);
        }
        if (i < 0 || j < 0 || n < 0 || (long) i + n > rows[a].length || (long) j + n > rows[b].length) {
            return finding(2);
        }
        int[] were = rows[a].clone();
        for (int k = 0; k < n; k++) {
            rows[b][j + k] = were[i + k];
        }
        return none(n);
    }

    int drop(int row) {
        if (out(row, 0, 7)) {
            return BAD;
        }
        if (rows[row] == null) {
            return finding(1);
        }
        int n = rows[row].length;
        rows[row] = null;
        return none(n);
    }

    int feed(int letter) {
        if (out(letter, 0, 255)) {
            return BAD;
        }
        if (tape.length() == 90) {
            return FULL;
        }
        tape.append((char) letter);
        return tape.length();
    }

    private static final class Fault extends RuntimeException {
        private static final long serialVersionUID = 1;
        final int place;
        final int number;

        Fault(int place, int number) {
            this.place = place;
            this.number = number;
        }
    }

    int cellar() {
        String text = tape.toString();
        tape.setLength(0);
        try {
            now = parsed(text);
            past.clear();
            return now.jars.size();
        } catch (Fault f) {
            fault = f.number;
            return -1000100 - f.place;
        }
    }

    /** All tokens first, a faulty one among them; then the words that must stand there, one by one. */
    private static World parsed(String text) {
        List<String> tokens = new ArrayList<>();
        List<Integer> places = new ArrayList<>();
        Matcher m = Pattern.compile("[0-9]+|[\\s\\S]").matcher(text);
        while (m.find()) {
            tokens.add(m.group());
            places.add(m.start());
        }
        tokens.add("END");
        places.add(text.length());
        List<Jar> jars = new ArrayList<>();
        int reach = 0;
        int note = 0;
        int years = 0;
        char sort = '?';
        for (int t = 0;; t++) {
            String token = tokens.get(t);
            int place = places.get(t);
            int part = t < 3 ? t - 3 : (t - 3) % 5;
            boolean number = token.matches("[0-9]{1,2}");
            boolean stands;
            switch (part) {
                case -3: stands = token.equals("k"); break;
                case -2: case 1: case 3: stands = number; break;
                case -1: case 4: stands = token.equals(";"); break;
                case 2: stands = token.equals(","); break;
                default: stands = token.matches("[gthsc]") || token.equals("END") && t > 3;
            }
            if (!stands) {
                throw new Fault(place, 1);
            }
            int v = number ? Integer.parseInt(token) : 0;
            if (part == -2 && v > 8 || part == 1 && v > 11 || part == 3 && (v < 1 || v > 60)) {
                throw new Fault(place, 2);
            }
            if (token.equals("END")) {
                return new World(jars, 0, reach);
            }
            if (part == 0 && jars.size() == 8) {
                throw new Fault(place, 3);
            }
            reach = part == -2 ? v : reach;
            sort = part == 0 ? token.charAt(0) : sort;
            note = part == 1 ? v : note;
            years = part == 3 ? v : years;
            if (part == 4) {
                jars.add(new Jar(sort, note, years, jars.size(), "WHOLE"));
            }
        }
    }

    int fault() {
        return fault;
    }

    int undo() {
        if (past.isEmpty()) {
            return STATE;
        }
        now = past.remove(past.size() - 1);
        return past.size();
    }

    int years(int n) {
        if (now == null) {
            return STATE;
        }
        if (out(n, 1, 24)) {
            return BAD;
        }
        if (now.year + n > 999) {
            return FULL;
        }
        for (int k = 0; k < n; k++) {
            act(now.older());
        }
        return now.those("WHOLE");
    }

    int sneeze(int note, int place) {
        if (out(note, 0, 11) || noJar(place)) {
            return BAD;
        }
        int b = bits(now.broken(note, place));
        act(now.sneezed(note, place));
        return b;
    }

    int open(int jar) {
        if (noJar(jar)) {
            return BAD;
        }
        if (!now.jars.get(jar).whole()) {
            return STATE;
        }
        act(now.with(jar, now.jars.get(jar).is("OPENED")));
        return now.jars.get(jar).note;
    }

    int change(int jar, int other) {
        if (noJar(jar) || noJar(other) || jar == other) {
            return BAD;
        }
        act(now.swapped(jar, other));
        return now.jars.get(jar).place;
    }

    int seal(int jar, int note, int years) {
        if (noJar(jar) || out(note, 0, 11) || out(years, 1, 60)) {
            return BAD;
        }
        if (now.jars.get(jar).whole()) {
            return STATE;
        }
        act(now.with(jar, now.jars.get(jar).sealed(note, years)));
        return now.those("WHOLE");
    }

    int reach(int v) {
        if (now == null) {
            return STATE;
        }
        if (out(v, 0, 8)) {
            return BAD;
        }
        int was = now.reach;
        act(new World(now.jars, now.year, v));
        return was;
    }

    int jar(int jar, int what) {
        if (noJar(jar) || out(what, 0, 3)) {
            return BAD;
        }
        Jar j = now.jars.get(jar);
        return new int[] {j.note, j.years, j.place, HOWS.indexOf(j.how)}[what];
    }

    int stand(int how) {
        if (now == null) {
            return STATE;
        }
        return out(how, 0, 3) ? BAD : now.those(HOWS.get(how));
    }

    int chain(int note, int place, int what) {
        if (out(note, 0, 11) || noJar(place) || out(what, 0, 1)) {
            return BAD;
        }
        return what == 0 ? bits(now.broken(note, place)) : now.rounds(note, place).size();
    }

    int worst(int what) {
        if (now == null) {
            return STATE;
        }
        return out(what, 0, 1) ? BAD : now.worst()[what];
    }

    int when(int jar) {
        if (noJar(jar)) {
            return BAD;
        }
        World w = now;
        for (int n = 0; n <= 60; n++) {
            if (w.jars.get(jar).how.equals("MOULDY")) {
                return n;
            }
            w = w.older();
        }
        return NONE;
    }

    int kept(int n) {
        if (now == null) {
            return STATE;
        }
        if (out(n, 0, 60)) {
            return BAD;
        }
        World w = now;
        for (int k = 0; k < n; k++) {
            w = w.older();
        }
        return w.those("WHOLE");
    }

    int guard(int note, int place, int k, int what) {
        if (out(note, 0, 11) || noJar(place) || out(k, 0, 8) || out(what, 0, 1)) {
            return BAD;
        }
        int whole = now.those("WHOLE");
        for (int n = 0; n <= 8; n++) {
            for (int opened = 0; opened < 256; opened++) {
                if ((opened | whole) != whole || Integer.bitCount(opened) != n) {
                    continue;
                }
                World w = now;
                for (int j = 0; j < 8; j++) {
                    w = (opened >> j & 1) == 1 ? w.with(j, w.jars.get(j).is("OPENED")) : w;
                }
                if (w.broken(note, place).size() <= k) {
                    return what == 0 ? n : opened;
                }
            }
        }
        throw new IllegalStateException("all opened, none can break");
    }

    int changes(int what) {
        if (now == null) {
            return STATE;
        }
        if (out(what, 0, 1)) {
            return BAD;
        }
        int fewest = now.worst()[1];
        int[] best = {NONE, NONE};
        for (int a = 0; a < now.jars.size(); a++) {
            for (int b = a + 1; b < now.jars.size(); b++) {
                int n = now.swapped(a, b).worst()[1];
                if (n < fewest) {
                    fewest = n;
                    best = new int[] {10 * a + b, n};
                }
            }
        }
        return best[what];
    }

    int tuned(int jar, int what) {
        if (noJar(jar) || out(what, 0, 1)) {
            return BAD;
        }
        int[] best = null;
        for (int note = 0; note < 12; note++) {
            int n = now.with(jar, now.jars.get(jar).of(note).is("WHOLE")).worst()[1];
            if (best == null || n < best[1]) {
                best = new int[] {note, n};
            }
        }
        return best[what];
    }

    int spared(int what) {
        if (now == null) {
            return STATE;
        }
        if (out(what, 0, 1)) {
            return BAD;
        }
        int[] best = null;
        for (int j = 0; j < now.jars.size(); j++) {
            if (now.jars.get(j).whole()) {
                int n = now.with(j, now.jars.get(j).is("OPENED")).worst()[1];
                if (best == null || n < best[1]) {
                    best = new int[] {j, n};
                }
            }
        }
        return best == null ? NONE : best[what];
    }

    int alike(int what) {
        if (now == null) {
            return STATE;
        }
        if (out(what, 0, 1)) {
            return BAD;
        }
        List<Integer> pairs = new ArrayList<>();
        for (int a = 0; a < now.jars.size(); a++) {
            for (int b = a + 1; b < now.jars.size(); b++) {
                Jar one = now.jars.get(a);
                Jar other = now.jars.get(b);
                if (one.whole() && other.whole() && Math.abs(one.place - other.place) <= now.reach
                        && one.breaksBy(List.of(other.note)) && other.breaksBy(List.of(one.note))) {
                    pairs.add(10 * a + b);
                }
            }
        }
        return what == 0 ? pairs.size() : pairs.isEmpty() ? NONE : pairs.get(0);
    }

    private int lack(int row, int i, int n) {
        if (rows[row] == null) {
            return 1;
        }
        return i < 0 || (long) i + n > rows[row].length ? 2 : 0;
    }

    int song(int what, int row, int i, int n) {
        if (now == null) {
            return STATE;
        }
        if (out(what, 0, 1) || out(row, 0, 7) || out(n, 1, 12)) {
            return BAD;
        }
        if (lack(row, i, n) != 0) {
            return finding(lack(row, i, n));
        }
        int[] notes = Arrays.copyOfRange(rows[row], i, i + n);
        for (int note : notes) {
            if (out(note, 0, 11)) {
                return finding(3);
            }
        }
        List<Integer> used = new ArrayList<>();
        int lacking = 0;
        for (int note : notes) {
            int found = -1;
            for (int j = now.jars.size() - 1; j >= 0; j--) {
                if (now.jars.get(j).whole() && now.jars.get(j).note == note && !used.contains(j)) {
                    found = j;
                }
            }
            if (found < 0) {
                lacking++;
            } else {
                used.add(found);
            }
        }
        return none(what == 0 ? bits(used) : lacking);
    }

    private static boolean fits(World w, int place, int[] told) {
        for (int note = 0; note < told.length; note++) {
            if (w.broken(note, place).size() != told[note]) {
                return false;
            }
        }
        return true;
    }

    int who(int jar, int which, int place, int row, int i, int n) {
        if (noJar(jar) || out(which, 0, 1) || noJar(place) || out(row, 0, 7) || out(n, 1, 12)) {
            return BAD;
        }
        if (lack(row, i, n) != 0) {
            return finding(lack(row, i, n));
        }
        int[] told = Arrays.copyOfRange(rows[row], i, i + n);
        Jar j = now.jars.get(jar);
        List<Integer> all = new ArrayList<>();
        if (which == 0) {
            for (int kind = 1; kind <= 5; kind++) {
                if (fits(now.with(jar, j.like(SORTS.charAt(kind))), place, told)) {
                    all.add(kind);
                }
            }
        } else {
            for (int note = 0; note < 12; note++) {
                if (fits(now.with(jar, j.of(note)), place, told)) {
                    all.add(note);
                }
            }
        }
        return none(bits(all));
    }

    int reaches(int place, int row, int i, int n) {
        if (noJar(place) || out(row, 0, 7) || out(n, 1, 12)) {
            return BAD;
        }
        if (lack(row, i, n) != 0) {
            return finding(lack(row, i, n));
        }
        int[] told = Arrays.copyOfRange(rows[row], i, i + n);
        List<Integer> all = new ArrayList<>();
        for (int r = 0; r <= 8; r++) {
            if (fits(new World(now.jars, now.year, r), place, told)) {
                all.add(r);
            }
        }
        return none(bits(all));
    }

    long mould(int jar, int note, int place, int p, int what) {
        if (noJar(jar) || out(note, 0, 11) || noJar(place) || out(p, 0, 10) || out(what, 0, 1)) {
            return BAD;
        }
        BigInteger above = cases(now, 0, jar, note, place, p);
        BigInteger below = BigInteger.TEN.pow(Integer.bitCount(now.those("WHOLE")));
        BigInteger shared = above.gcd(below);
        return (what == 0 ? above : below).divide(shared).longValueExact();
    }

    private static BigInteger cases(World w, int from, int jar, int note, int place, int p) {
        if (from == w.jars.size()) {
            return w.broken(note, place).contains(jar) ? BigInteger.ONE : BigInteger.ZERO;
        }
        if (!w.jars.get(from).whole()) {
            return cases(w, from + 1, jar, note, place, p);
        }
        World mouldy = w.with(from, w.jars.get(from).is("MOULDY"));
        return cases(mouldy, from + 1, jar, note, place, p).multiply(BigInteger.valueOf(p))
            .add(cases(w, from + 1, jar, note, place, p).multiply(BigInteger.valueOf(10 - p)));
    }

    int drawn(int n, int seed, int what) {
        if (now == null) {
            return STATE;
        }
        if (out(n, 0, 60) || out(seed, 1, 999999) || out(what, 0, 1)) {
            return BAD;
        }
        World w = now;
        BigInteger x = BigInteger.valueOf(seed);
        for (int k = 0; k < n; k++) {
            x = x.multiply(BigInteger.valueOf(16807)).mod(BigInteger.valueOf(2147483647));
            int v = x.intValueExact();
            if (v % 3 == 0) {
                w = w.sneezed(v % 12, v % w.jars.size());
            }
            w = w.older();
        }
        return what == 0 ? w.those("WHOLE") : Integer.bitCount(w.those("BROKEN"));
    }

    int image(int k) {
        if (out(k, 0, 1)) {
            return BAD;
        }
        if (now == null) {
            return STATE;
        }
        images[k] = now;
        return 1;
    }

    int restore(int k) {
        if (out(k, 0, 1)) {
            return BAD;
        }
        if (images[k] == null) {
            return STATE;
        }
        now = images[k];
        past.clear();
        return 1;
    }

    int kind(int one) {
        return noJar(one) ? BAD : SORTS.indexOf(now.jars.get(one).sort);
    }

    int as(int one, int kind) {
        if (noJar(one) || out(kind, 0, 5)) {
            return BAD;
        }
        String are = List.of("", "01", "012", "013", "04", "045").get(kind(one));
        return are.indexOf('0' + kind) >= 0 ? none(one) : finding(3);
    }

    int ask(int one, int what) {
        if (noJar(one) || out(what, 0, 1)) {
            return BAD;
        }
        trace.clear();
        Asked asked = asked(one);
        return what == 0 ? asked.size() : asked.mark();
    }

    private Asked asked(int one) {
        Jar j = now.jars.get(one);
        switch (j.sort) {
            case 'g': return new Glass(one, j, trace);
            case 't': return new Thin(one, j, trace);
            case 'h': return new Thick(one, j, trace);
            case 's': return new Stone(one, j, trace);
            default: return new Crock(one, j, trace);
        }
    }

    private static class Asked {
        final int number;
        final Jar jar;
        final List<Integer> trace;

        Asked(int number, Jar jar, List<Integer> trace) {
            this.number = number;
            this.jar = jar;
            this.trace = trace;
        }

        int size() {
            trace.add(10);
            return jar.note;
        }

        int mark() {
            trace.add(20);
            return number;
        }
    }

    private static class Glass extends Asked {
        Glass(int number, Jar jar, List<Integer> trace) {
            super(number, jar, trace);
        }

        @Override
        int size() {
            trace.add(11);
            return super.size() + mark();
        }

        @Override
        int mark() {
            trace.add(21);
            return super.mark() + jar.years;
        }
    }

    private static final class Thin extends Glass {
        Thin(int number, Jar jar, List<Integer> trace) {
            super(number, jar, trace);
        }

        @Override
        int size() {
            trace.add(12);
            return -super.size();
        }

        @Override
        int mark() {
            trace.add(24);
            return super.mark() * 2;
        }
    }

    private static final class Thick extends Glass {
        Thick(int number, Jar jar, List<Integer> trace) {
            super(number, jar, trace);
        }

        @Override
        int mark() {
            trace.add(22);
            return super.mark() - 1000;
        }
    }

    private static class Stone extends Asked {
        Stone(int number, Jar jar, List<Integer> trace) {
            super(number, jar, trace);
        }

        @Override
        int size() {
            trace.add(13);
            return super.size() - 100;
        }

        @Override
        int mark() {
            trace.add(23);
            return super.mark() - size();
        }
    }

    private static final class Crock extends Stone {
        Crock(int number, Jar jar, List<Integer> trace) {
            super(number, jar, trace);
        }

        @Override
        int size() {
            trace.add(14);
            return super.size() * 2;
        }
    }

    int trace(int i) {
        return out(i, 0, Math.min(16, trace.size()) - 1) ? NONE : trace.get(i);
    }

    int count(int what) {
        switch (what) {
            case 0:
                int n = 0;
                for (int[] r : rows) {
                    n += r == null ? 0 : 1;
                }
                return n;
            case 1: return now == null ? 0 : now.jars.size();
            case 2: return now == null ? 0 : now.year;
            case 3: return now == null ? 0 : now.reach;
            case 4: return now == null ? 0 : Integer.bitCount(now.those("WHOLE"));
            case 5: return now == null ? 0 : Integer.bitCount(now.those("BROKEN"));
            case 6: return past.size();
            case 7: return tape.length();
            default: return BAD;
        }
    }

    int status() {
        return status;
    }
}
