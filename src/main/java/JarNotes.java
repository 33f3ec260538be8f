/**
 * A cellar of jars, each sealed with a note: what is done to them, what a sneeze would do, and what
 * can be asked of them. Refusals, findings and faults are answers like all others; nothing throws.
 */
public final class JarNotes {
    public static final int NONE = -1000000, BAD = -1000001, STATE = -1000002, FULL = -1000003;

    private static final int FINDINGS = -1000010, FAULTS = -1000100;
    private static final int NULL = 1, PLACE = 2, KIND = 3, SIZE = 4, STORE = 5;

    private static final int ROWS = 8, LANES = 3, MOST_ITEMS = 40;
    private static final int MOST_BYTES = 90, MOST_ACTS = 24, IMAGES = 2, MOST_TRACED = 16;
    private static final int JARS = 8, NOTES = 12, KINDS = 6;
    private static final int MOST_REACH = 8, MOST_YEARS = 60, MOST_AT_ONCE = 24, LAST_YEAR = 999, LAST_SEED = 999999;
    private static final int CANNOT_STAND = 1, NOT_AS_TOLD = 2, NO_ROOM = 3;

    private static final int WHOLE = 0, BROKEN = 1, MOULDY = 2, OPENED = 3;
    private static final int GLASS = 1, THIN = 2, THICK = 3, STONE = 4, CROCK = 5;
    private static final int[] KIND_ABOVE = {-1, 0, 1, 1, 0, 4};

    private final Rows rows = new Rows();
    private final Tape tape = new Tape();
    private final Cellar cellar = new Cellar();
    private final Cellar draft = new Cellar();
    private final Acts acts = new Acts();
    private final Foretold foretold = new Foretold();
    private final Asks asks = new Asks();
    private final Cellar[] images = new Cellar[IMAGES];
    private int latestFault;
    private int finding;

    public JarNotes() {
    }

    // ---- rows

    public int row(int row, int lane, int n) {
        if (!isRow(row) || !within(lane, 0, LANES - 1) || n > MOST_ITEMS) {
            return BAD;
        }
        if (n < 0) {
            return found(SIZE);
        }
        rows.lay(row, lane, n);
        return fine(n);
    }

    public int set(int row, int i, int v) {
        if (!isRow(row)) {
            return BAD;
        }
        int lack = rows.lacking(row, i, 1);
        if (lack != 0) {
            return found(lack);
        }
        return fine(rows.put(row, i, v));
    }

    public int copy(int a, int i, int b, int j, int n) {
        if (!isRow(a) || !isRow(b)) {
            return BAD;
        }
        if (!rows.there[a] || !rows.there[b]) {
            return found(NULL);
        }
        if (rows.lanes[a] != rows.lanes[b]) {
            return found(STORE);
        }
        if (!rows.holds(a, i, n) || !rows.holds(b, j, n)) {
            return found(PLACE);
        }
        System.arraycopy(rows.items[a], i, rows.items[b], j, n);
        return fine(n);
    }

    public int drop(int row) {
        if (!isRow(row)) {
            return BAD;
        }
        if (!rows.there[row]) {
            return found(NULL);
        }
        rows.there[row] = false;
        return fine(rows.sizes[row]);
    }

    // ---- what is told

    public int feed(int letter) {
        if (!within(letter, 0, 255)) {
            return BAD;
        }
        return tape.takes(letter) ? tape.size : FULL;
    }

    public int cellar() {
        boolean good = tape.tells(draft);
        tape.size = 0;
        if (!good) {
            latestFault = tape.fault;
            return FAULTS - tape.at;
        }
        cellar.become(draft);
        acts.forget();
        return cellar.jars;
    }

    public int fault() {
        return latestFault;
    }

    public int undo() {
        return acts.takeBack(cellar) ? acts.size : STATE;
    }

    // ---- what is done

    public int years(int n) {
        if (noCellar()) {
            return STATE;
        }
        if (!within(n, 1, MOST_AT_ONCE)) {
            return BAD;
        }
        if (cellar.year + n > LAST_YEAR) {
            return FULL;
        }
        for (int k = 0; k < n; k++) {
            acts.keep(cellar);
            cellar.age();
        }
        return cellar.those(WHOLE);
    }

    public int sneeze(int note, int place) {
        if (!isSneeze(note, place)) {
            return BAD;
        }
        int broken = foretold.brokenBy(cellar, note, place);
        acts.keep(cellar);
        cellar.smash(broken);
        return broken;
    }

    public int open(int jar) {
        if (!isJar(jar)) {
            return BAD;
        }
        if (cellar.hows[jar] != WHOLE) {
            return STATE;
        }
        acts.keep(cellar);
        cellar.hows[jar] = OPENED;
        return cellar.notes[jar];
    }

    public int change(int jar, int other) {
        if (!isJar(jar) || !isJar(other) || jar == other) {
            return BAD;
        }
        acts.keep(cellar);
        cellar.swapPlaces(jar, other);
        return cellar.places[jar];
    }

    public int seal(int jar, int note, int years) {
        if (!isJar(jar) || !isNote(note) || !within(years, 1, MOST_YEARS)) {
            return BAD;
        }
        if (cellar.hows[jar] == WHOLE) {
            return STATE;
        }
        acts.keep(cellar);
        cellar.hows[jar] = WHOLE;
        cellar.notes[jar] = note;
        cellar.keeps[jar] = years;
        return cellar.those(WHOLE);
    }

    public int reach(int v) {
        if (noCellar()) {
            return STATE;
        }
        if (!within(v, 0, MOST_REACH)) {
            return BAD;
        }
        int before = cellar.reach;
        acts.keep(cellar);
        cellar.reach = v;
        return before;
    }

    public int jar(int jar, int what) {
        if (!isJar(jar)) {
            return BAD;
        }
        switch (what) {
            case 0: return cellar.notes[jar];
            case 1: return cellar.keeps[jar];
            case 2: return cellar.places[jar];
            case 3: return cellar.hows[jar];
            default: return BAD;
        }
    }

    public int stand(int how) {
        if (noCellar()) {
            return STATE;
        }
        return within(how, WHOLE, OPENED) ? cellar.those(how) : BAD;
    }

    // ---- foretold

    public int chain(int note, int place, int what) {
        if (!isSneeze(note, place) || !isHalf(what)) {
            return BAD;
        }
        int broken = foretold.brokenBy(cellar, note, place);
        return what == 0 ? broken : foretold.echo.rounds;
    }

    public int worst(int what) {
        if (noCellar()) {
            return STATE;
        }
        if (!isHalf(what)) {
            return BAD;
        }
        foretold.findWorst(cellar);
        return what == 0 ? foretold.which : foretold.howMany;
    }

    public int when(int jar) {
        if (!isJar(jar)) {
            return BAD;
        }
        switch (cellar.hows[jar]) {
            case WHOLE: return cellar.keeps[jar];
            case MOULDY: return 0;
            default: return NONE;
        }
    }

    public int kept(int n) {
        if (noCellar()) {
            return STATE;
        }
        return within(n, 0, MOST_YEARS) ? cellar.wholeBehind(n) : BAD;
    }

    public int guard(int note, int place, int k, int what) {
        if (!isSneeze(note, place) || !within(k, 0, JARS) || !isHalf(what)) {
            return BAD;
        }
        foretold.findGuard(cellar, note, place, k);
        return what == 0 ? foretold.howMany : foretold.which;
    }

    public int changes(int what) {
        if (noCellar()) {
            return STATE;
        }
        if (!isHalf(what)) {
            return BAD;
        }
        foretold.findChange(cellar);
        return what == 0 ? foretold.which : foretold.howMany;
    }

    public int tuned(int jar, int what) {
        if (!isJar(jar) || !isHalf(what)) {
            return BAD;
        }
        foretold.findTuned(cellar, jar);
        return what == 0 ? foretold.which : foretold.howMany;
    }

    public int spared(int what) {
        if (noCellar()) {
            return STATE;
        }
        if (!isHalf(what)) {
            return BAD;
        }
        foretold.findSpared(cellar);
        return what == 0 ? foretold.which : foretold.howMany;
    }

    public int alike(int what) {
        if (noCellar()) {
            return STATE;
        }
        if (!isHalf(what)) {
            return BAD;
        }
        foretold.findAlike(cellar);
        return what == 0 ? foretold.howMany : foretold.which;
    }

    public int song(int what, int row, int i, int n) {
        if (noCellar()) {
            return STATE;
        }
        if (!isHalf(what) || !isRow(row) || !within(n, 1, NOTES)) {
            return BAD;
        }
        int lack = rows.lacking(row, i, n);
        if (lack == 0 && !rows.tellsNotes(row, i, n)) {
            lack = KIND;
        }
        if (lack != 0) {
            return found(lack);
        }
        foretold.findSong(cellar, rows.items[row], i, n);
        return fine(what == 0 ? foretold.which : foretold.howMany);
    }

    public int who(int jar, int which, int place, int row, int i, int n) {
        if (!isJar(jar) || !isHalf(which) || !isPlace(place) || !isRow(row) || !within(n, 1, NOTES)) {
            return BAD;
        }
        int lack = rows.lacking(row, i, n);
        if (lack != 0) {
            return found(lack);
        }
        if (which == 0) {
            return fine(foretold.fittingKinds(cellar, jar, place, rows.items[row], i, n));
        }
        return fine(foretold.fittingNotes(cellar, jar, place, rows.items[row], i, n));
    }

    public int reaches(int place, int row, int i, int n) {
        if (!isPlace(place) || !isRow(row) || !within(n, 1, NOTES)) {
            return BAD;
        }
        int lack = rows.lacking(row, i, n);
        if (lack != 0) {
            return found(lack);
        }
        return fine(foretold.fittingReaches(cellar, place, rows.items[row], i, n));
    }

    public long mould(int jar, int note, int place, int p, int what) {
        if (!isJar(jar) || !isSneeze(note, place) || !within(p, 0, 10) || !isHalf(what)) {
            return BAD;
        }
        foretold.findMould(cellar, jar, note, place, p);
        return what == 0 ? foretold.above : foretold.below;
    }

    public int drawn(int n, int seed, int what) {
        if (noCellar()) {
            return STATE;
        }
        if (!within(n, 0, MOST_YEARS) || !within(seed, 1, LAST_SEED) || !isHalf(what)) {
            return BAD;
        }
        foretold.findVintage(cellar, n, seed);
        return what == 0 ? foretold.which : foretold.howMany;
    }

    public int image(int k) {
        if (!within(k, 0, IMAGES - 1)) {
            return BAD;
        }
        if (noCellar()) {
            return STATE;
        }
        if (images[k] == null) {
            images[k] = new Cellar();
        }
        images[k].become(cellar);
        return 1;
    }

    public int restore(int k) {
        if (!within(k, 0, IMAGES - 1)) {
            return BAD;
        }
        if (images[k] == null) {
            return STATE;
        }
        cellar.become(images[k]);
        acts.forget();
        return 1;
    }

    // ---- asked

    public int kind(int one) {
        return isJar(one) ? cellar.kinds[one] : BAD;
    }

    public int as(int one, int kind) {
        if (!isJar(one) || !within(kind, 0, KINDS - 1)) {
            return BAD;
        }
        return isA(cellar.kinds[one], kind) ? fine(one) : found(KIND);
    }

    public int ask(int one, int what) {
        if (!isJar(one) || !isHalf(what)) {
            return BAD;
        }
        return asks.answer(cellar, one, what);
    }

    public int trace(int i) {
        return within(i, 0, asks.size - 1) ? asks.traced[i] : NONE;
    }

    public int count(int what) {
        switch (what) {
            case 0: return rows.howMany();
            case 1: return cellar.jars;
            case 2: return cellar.year;
            case 3: return cellar.reach;
            case 4: return Integer.bitCount(cellar.those(WHOLE));
            case 5: return Integer.bitCount(cellar.those(BROKEN));
            case 6: return acts.size;
            case 7: return tape.size;
            default: return BAD;
        }
    }

    public int status() {
        return finding;
    }

    // ---- what the calls look at first

    private int found(int number) {
        finding = number;
        return FINDINGS - number;
    }

    private int fine(int answer) {
        finding = 0;
        return answer;
    }

    // A cellar that was read has a jar at least.
    private boolean noCellar() {
        return cellar.jars == 0;
    }

    private boolean isJar(int jar) {
        return within(jar, 0, cellar.jars - 1);
    }

    private boolean isPlace(int place) {
        return within(place, 0, cellar.jars - 1);
    }

    private boolean isSneeze(int note, int place) {
        return isNote(note) && isPlace(place);
    }

    private static boolean isNote(int note) {
        return within(note, 0, NOTES - 1);
    }

    private static boolean isRow(int row) {
        return within(row, 0, ROWS - 1);
    }

    private static boolean isHalf(int what) {
        return within(what, 0, 1);
    }

    private static boolean within(int v, int least, int most) {
        return v >= least && v <= most;
    }

    private static boolean has(int bits, int i) {
        return (bits >> i & 1) != 0;
    }

    private static boolean isA(int kind, int wanted) {
        int k = kind;
        for (int step = 0; step < KINDS && within(k, 0, KINDS - 1); step++) {
            if (k == wanted) {
                return true;
            }
            k = KIND_ABOVE[k];
        }
        return false;
    }

    /** The rows; a row that is missing keeps its store, so that no call makes a new one. */
    private static final class Rows {
        final boolean[] there = new boolean[ROWS];
        final int[] lanes = new int[ROWS];
        final int[] sizes = new int[ROWS];
        final int[][] items = new int[ROWS][MOST_ITEMS];

        void lay(int row, int lane, int n) {
            there[row] = true;
            lanes[row] = lane;
            sizes[row] = n;
            for (int i = 0; i < MOST_ITEMS; i++) {
                items[row][i] = 0;
            }
        }

        int put(int row, int i, int v) {
            items[row][i] = narrowed(lanes[row], v);
            return items[row][i];
        }

        private static int narrowed(int lane, int v) {
            switch (lane) {
                case 0: return (byte) v;
                case 1: return (short) v;
                default: return v;
            }
        }

        // The size less n, not i and n together: that sum may wrap around.
        boolean holds(int row, int i, int n) {
            return i >= 0 && n >= 0 && i <= sizes[row] - n;
        }

        int lacking(int row, int i, int n) {
            if (!there[row]) {
                return NULL;
            }
            return holds(row, i, n) ? 0 : PLACE;
        }

        boolean tellsNotes(int row, int i, int n) {
            for (int k = 0; k < n; k++) {
                if (!isNote(items[row][i + k])) {
                    return false;
                }
            }
            return true;
        }

        int howMany() {
            int n = 0;
            for (int row = 0; row < ROWS; row++) {
                n += there[row] ? 1 : 0;
            }
            return n;
        }
    }

    /** The tape, and the reading of it; at stands on the token's first byte, so on a fault's too. */
    private static final class Tape {
        private final int[] bytes = new int[MOST_BYTES];
        int size;
        int at;
        int fault;
        private int value;

        boolean takes(int letter) {
            if (size >= MOST_BYTES) {
                return false;
            }
            bytes[size] = letter;
            size++;
            return true;
        }

        boolean tells(Cellar into) {
            at = 0;
            into.clear();
            if (!passes('k') || !numbers(0, MOST_REACH)) {
                return false;
            }
            into.reach = value;
            if (!passes(';')) {
                return false;
            }
            // One jar more than there is room for is begun, and found at fault.
            for (int jar = 0; jar <= JARS; jar++) {
                if (jar > 0 && at == size) {
                    return true;
                }
                if (!tellsJar(into)) {
                    return false;
                }
            }
            return false;
        }

        private boolean tellsJar(Cellar into) {
            int kind = at < size ? kindOf(bytes[at]) : 0;
            if (kind == 0) {
                return fails(CANNOT_STAND);
            }
            if (into.jars >= JARS) {
                return fails(NO_ROOM);
            }
            at++;
            if (!numbers(0, NOTES - 1)) {
                return false;
            }
            int note = value;
            if (!passes(',') || !numbers(1, MOST_YEARS)) {
                return false;
            }
            int years = value;
            if (!passes(';')) {
                return false;
            }
            into.add(kind, note, years);
            return true;
        }

        private static int kindOf(int letter) {
            switch (letter) {
                case 'g': return GLASS;
                case 't': return THIN;
                case 'h': return THICK;
                case 's': return STONE;
                case 'c': return CROCK;
                default: return 0;
            }
        }

        private boolean passes(int sign) {
            if (at >= size || bytes[at] != sign) {
                return fails(CANNOT_STAND);
            }
            at++;
            return true;
        }

        private boolean numbers(int least, int most) {
            int run = figures();
            if (!within(run, 1, 2)) {
                return fails(CANNOT_STAND);
            }
            value = 0;
            for (int k = 0; k < run; k++) {
                value = value * 10 + bytes[at + k] - '0';
            }
            if (!within(value, least, most)) {
                return fails(NOT_AS_TOLD);
            }
            at += run;
            return true;
        }

        private int figures() {
            int run = 0;
            while (at + run < size && within(bytes[at + run], '0', '9')) {
                run++;
            }
            return run;
        }

        private boolean fails(int number) {
            fault = number;
            return false;
        }
    }

    /** What acts change, images keep and foretelling tries out. */
    private static final class Cellar {
        int jars;
        int year;
        int reach;
        final int[] kinds = new int[JARS];
        final int[] notes = new int[JARS];
        final int[] keeps = new int[JARS];
        final int[] places = new int[JARS];
        final int[] hows = new int[JARS];

        void clear() {
            jars = 0;
            year = 0;
            reach = 0;
        }

        void add(int kind, int note, int years) {
            if (jars >= JARS) {
                return;
            }
            kinds[jars] = kind;
            notes[jars] = note;
            keeps[jars] = years;
            places[jars] = jars;
            hows[jars] = WHOLE;
            jars++;
        }

        void become(Cellar other) {
            jars = other.jars;
            year = other.year;
            reach = other.reach;
            System.arraycopy(other.kinds, 0, kinds, 0, JARS);
            System.arraycopy(other.notes, 0, notes, 0, JARS);
            System.arraycopy(other.keeps, 0, keeps, 0, JARS);
            System.arraycopy(other.places, 0, places, 0, JARS);
            System.arraycopy(other.hows, 0, hows, 0, JARS);
        }

        void age() {
            year++;
            for (int j = 0; j < jars; j++) {
                if (hows[j] == WHOLE) {
                    keeps[j]--;
                    if (keeps[j] <= 0) {
                        hows[j] = MOULDY;
                    }
                }
            }
        }

        void smash(int broken) {
            for (int j = 0; j < jars; j++) {
                if (has(broken, j)) {
                    hows[j] = BROKEN;
                }
            }
        }

        void swapPlaces(int jar, int other) {
            int place = places[jar];
            places[jar] = places[other];
            places[other] = place;
        }

        int those(int how) {
            int bits = 0;
            for (int j = 0; j < jars; j++) {
                if (hows[j] == how) {
                    bits |= 1 << j;
                }
            }
            return bits;
        }

        int wholeBehind(int n) {
            int bits = 0;
            for (int j = 0; j < jars; j++) {
                if (hows[j] == WHOLE && keeps[j] > n) {
                    bits |= 1 << j;
                }
            }
            return bits;
        }
    }

    /** The cellar as it was ahead of each act that can be undone, in a ring that is used again. */
    private static final class Acts {
        private final Cellar[] befores = new Cellar[MOST_ACTS];
        private int next;
        int size;

        void keep(Cellar now) {
            if (befores[next] == null) {
                befores[next] = new Cellar();
            }
            befores[next].become(now);
            next = (next + 1) % MOST_ACTS;
            size = Math.min(size + 1, MOST_ACTS);
        }

        boolean takeBack(Cellar now) {
            int latest = (next + MOST_ACTS - 1) % MOST_ACTS;
            if (size == 0 || befores[latest] == null) {
                return false;
            }
            now.become(befores[latest]);
            next = latest;
            size--;
            return true;
        }

        void forget() {
            size = 0;
        }
    }

    /** Who is set off by whom in one cellar, as bits, so that many sneezes can be tried cheaply. */
    private static final class Echo {
        private final int[] answering = new int[NOTES];
        private final int[] near = new int[JARS];
        private final int[] struckBy = new int[JARS];
        private int thick;
        int jars;
        int rounds;

        void tune(Cellar of) {
            jars = of.jars;
            thick = 0;
            for (int note = 0; note < NOTES; note++) {
                answering[note] = answeringTo(of, note);
            }
            for (int place = 0; place < jars; place++) {
                near[place] = nearTo(of, place);
            }
            for (int j = 0; j < jars; j++) {
                struckBy[j] = struckFrom(of.notes[j], of.places[j]);
                if (of.kinds[j] == THICK) {
                    thick |= 1 << j;
                }
            }
        }

        private static int answeringTo(Cellar of, int note) {
            int bits = 0;
            for (int j = 0; j < of.jars; j++) {
                if (answers(of.kinds[j], apart(of.notes[j], note))) {
                    bits |= 1 << j;
                }
            }
            return bits;
        }

        private static int nearTo(Cellar of, int place) {
            int bits = 0;
            for (int j = 0; j < of.jars; j++) {
                if (Math.abs(of.places[j] - place) <= of.reach) {
                    bits |= 1 << j;
                }
            }
            return bits;
        }

        private static int apart(int note, int other) {
            int way = Math.abs(note - other);
            return Math.min(way, NOTES - way);
        }

        // A thick one answers as glass does, but two such sounds are needed: breakingBy counts them.
        private static boolean answers(int kind, int apart) {
            switch (kind) {
                case GLASS:
                case THICK: return apart == 0;
                case THIN: return apart <= 1;
                case STONE: return apart == 5;
                case CROCK: return apart == 5 || apart == 6;
                default: return false;
            }
        }

        private int struckFrom(int note, int place) {
            boolean heard = within(note, 0, NOTES - 1) && within(place, 0, jars - 1);
            return heard ? answering[note] & near[place] : 0;
        }

        int broken(int note, int place, int whole) {
            int left = whole;
            int breaking = left & struckFrom(note, place) & ~thick;
            rounds = 0;
            // Each round takes a jar at least, so there are no more rounds than jars.
            while (breaking != 0 && rounds < JARS) {
                rounds++;
                left &= ~breaking;
                breaking = left & breakingBy(breaking);
            }
            return whole & ~left;
        }

        private int breakingBy(int sounding) {
            int once = 0;
            int twice = 0;
            for (int j = 0; j < jars; j++) {
                if (has(sounding, j)) {
                    twice |= once & struckBy[j];
                    once |= struckBy[j];
                }
            }
            return once & ~thick | twice & thick;
        }

        boolean eachStrikesOther(int jar, int other) {
            return has(struckBy[jar] & ~thick, other) && has(struckBy[other] & ~thick, jar);
        }
    }

    /** What is foretold; each search leaves its answer in two fields, of which a call tells one. */
    private static final class Foretold {
        final Echo echo = new Echo();
        private final Cellar guess = new Cellar();
        int which;
        int howMany;
        long above;
        long below;
        private int loudest;

        int brokenBy(Cellar of, int note, int place) {
            echo.tune(of);
            return echo.broken(note, place, of.those(WHOLE));
        }

        void findWorst(Cellar of) {
            echo.tune(of);
            howMany = mostBroken(of.those(WHOLE), JARS);
            which = loudest;
        }

        // Stops at enough: whoever seeks the fewest has no use for what is no fewer.
        private int mostBroken(int whole, int enough) {
            int most = -1;
            for (int note = 0; note < NOTES && most < enough; note++) {
                for (int place = 0; place < echo.jars && most < enough; place++) {
                    int n = Integer.bitCount(echo.broken(note, place, whole));
                    if (n > most) {
                        most = n;
                        loudest = 100 * note + place;
                    }
                }
            }
            return most;
        }

        void findGuard(Cellar of, int note, int place, int k) {
            echo.tune(of);
            int whole = of.those(WHOLE);
            howMany = JARS + 1;
            which = 0;
            for (int opened = 0; opened < 1 << JARS; opened++) {
                int n = Integer.bitCount(opened);
                if ((opened & ~whole) == 0 && n < howMany
                        && Integer.bitCount(echo.broken(note, place, whole & ~opened)) <= k) {
                    howMany = n;
                    which = opened;
                }
            }
        }

        void findChange(Cellar of) {
            echo.tune(of);
            int whole = of.those(WHOLE);
            int fewest = mostBroken(whole, JARS);
            which = NONE;
            howMany = NONE;
            guess.become(of);
            for (int one = 0; one < of.jars; one++) {
                for (int other = one + 1; other < of.jars; other++) {
                    guess.swapPlaces(one, other);
                    echo.tune(guess);
                    int n = mostBroken(whole, fewest);
                    guess.swapPlaces(one, other);
                    if (n < fewest) {
                        fewest = n;
                        which = 10 * one + other;
                        howMany = n;
                    }
                }
            }
        }

        void findTuned(Cellar of, int jar) {
            int whole = of.those(WHOLE) | 1 << jar;
            howMany = JARS + 1;
            guess.become(of);
            for (int note = 0; note < NOTES; note++) {
                guess.notes[jar] = note;
                echo.tune(guess);
                keepFewest(note, mostBroken(whole, howMany));
            }
        }

        void findSpared(Cellar of) {
            int whole = of.those(WHOLE);
            if (whole == 0) {
                which = NONE;
                howMany = NONE;
                return;
            }
            echo.tune(of);
            howMany = JARS + 1;
            for (int j = 0; j < of.jars; j++) {
                if (has(whole, j)) {
                    keepFewest(j, mostBroken(whole & ~(1 << j), howMany));
                }
            }
        }

        private void keepFewest(int one, int n) {
            if (n < howMany) {
                which = one;
                howMany = n;
            }
        }

        void findAlike(Cellar of) {
            echo.tune(of);
            int whole = of.those(WHOLE);
            howMany = 0;
            which = NONE;
            for (int one = 0; one < of.jars; one++) {
                for (int other = one + 1; other < of.jars; other++) {
                    if (has(whole, one) && has(whole, other) && echo.eachStrikesOther(one, other)) {
                        which = howMany == 0 ? 10 * one + other : which;
                        howMany++;
                    }
                }
            }
        }

        void findSong(Cellar of, int[] items, int from, int n) {
            int left = of.those(WHOLE);
            which = 0;
            howMany = 0;
            for (int k = 0; k < n; k++) {
                int jar = leastOf(of, left, items[from + k]);
                if (jar < 0) {
                    howMany++;
                } else {
                    which |= 1 << jar;
                    left &= ~(1 << jar);
                }
            }
        }

        private static int leastOf(Cellar of, int jars, int note) {
            for (int j = 0; j < of.jars; j++) {
                if (has(jars, j) && of.notes[j] == note) {
                    return j;
                }
            }
            return -1;
        }

        int fittingKinds(Cellar of, int jar, int place, int[] items, int from, int n) {
            int bits = 0;
            guess.become(of);
            for (int kind = GLASS; kind <= CROCK; kind++) {
                guess.kinds[jar] = kind;
                if (guessFits(place, items, from, n)) {
                    bits |= 1 << kind;
                }
            }
            return bits;
        }

        int fittingNotes(Cellar of, int jar, int place, int[] items, int from, int n) {
            int bits = 0;
            guess.become(of);
            for (int note = 0; note < NOTES; note++) {
                guess.notes[jar] = note;
                if (guessFits(place, items, from, n)) {
                    bits |= 1 << note;
                }
            }
            return bits;
        }

        int fittingReaches(Cellar of, int place, int[] items, int from, int n) {
            int bits = 0;
            guess.become(of);
            for (int reach = 0; reach <= MOST_REACH; reach++) {
                guess.reach = reach;
                if (guessFits(place, items, from, n)) {
                    bits |= 1 << reach;
                }
            }
            return bits;
        }

        private boolean guessFits(int place, int[] items, int from, int n) {
            echo.tune(guess);
            int whole = guess.those(WHOLE);
            for (int note = 0; note < n; note++) {
                if (Integer.bitCount(echo.broken(note, place, whole)) != items[from + note]) {
                    return false;
                }
            }
            return true;
        }

        // Each set of jars that could stay whole is a case by itself, so the sum is exact.
        void findMould(Cellar of, int jar, int note, int place, int p) {
            echo.tune(of);
            int whole = of.those(WHOLE);
            above = 0;
            below = power(10, Integer.bitCount(whole));
            for (int left = 0; left < 1 << JARS; left++) {
                if ((left & ~whole) == 0 && has(left, jar) && has(echo.broken(note, place, left), jar)) {
                    above += power(10 - p, Integer.bitCount(left)) * power(p, Integer.bitCount(whole & ~left));
                }
            }
            long shared = sharedDivisor(above, below);
            if (shared > 1) {
                above /= shared;
                below /= shared;
            }
        }

        private static long power(long base, int times) {
            long product = 1;
            for (int k = 0; k < times; k++) {
                product *= base;
            }
            return product;
        }

        // Euclid is through with any two longs in fewer than 100 steps.
        private static long sharedDivisor(long one, long other) {
            long a = one;
            long b = other;
            for (int step = 0; step < 100 && b != 0; step++) {
                long rest = a % b;
                a = b;
                b = rest;
            }
            return a;
        }

        void findVintage(Cellar of, int n, int seed) {
            guess.become(of);
            echo.tune(guess);
            long x = seed;
            for (int k = 0; k < n; k++) {
                x = x * 16807 % 2147483647;
                if (x % 3 == 0 && guess.jars > 0) {
                    int place = (int) (x % guess.jars);
                    guess.smash(echo.broken((int) (x % NOTES), place, guess.those(WHOLE)));
                }
                guess.age();
            }
            which = guess.those(WHOLE);
            howMany = Integer.bitCount(guess.those(BROKEN));
        }
    }

    /** The asks, by bodies; a body that a kind lacks (0) is that of the kind above it. */
    private static final class Asks {
        private static final int ASK_SIZE = 0, ASK_MARK = 1, DEEPEST = 16;
        private static final int[] SIZE_BODIES = {10, 11, 12, 0, 13, 14};
        private static final int[] MARK_BODIES = {20, 21, 24, 22, 23, 0};

        final int[] traced = new int[MOST_TRACED];
        int size;

        int answer(Cellar of, int jar, int what) {
            size = 0;
            return asked(of, jar, what, 0);
        }

        private int asked(Cellar of, int jar, int what, int depth) {
            return body(of, jar, bodyFor(of.kinds[jar], what), depth);
        }

        private static int bodyFor(int kind, int what) {
            int k = kind;
            for (int step = 0; step < KINDS && within(k, 0, KINDS - 1); step++) {
                int body = what == ASK_SIZE ? SIZE_BODIES[k] : MARK_BODIES[k];
                if (body != 0) {
                    return body;
                }
                k = KIND_ABOVE[k];
            }
            return 0;
        }

        private int body(Cellar of, int jar, int number, int depth) {
            if (depth >= DEEPEST) {
                return 0;
            }
            leave(number);
            int deeper = depth + 1;
            switch (number) {
                case 10: return of.notes[jar];
                case 11: return body(of, jar, 10, deeper) + asked(of, jar, ASK_MARK, deeper);
                case 12: return -body(of, jar, 11, deeper);
                case 13: return body(of, jar, 10, deeper) - 100;
                case 14: return 2 * body(of, jar, 13, deeper);
                case 20: return jar;
                case 21: return body(of, jar, 20, deeper) + of.keeps[jar];
                case 22: return body(of, jar, 21, deeper) - 1000;
                case 23: return body(of, jar, 20, deeper) - asked(of, jar, ASK_SIZE, deeper);
                case 24: return 2 * body(of, jar, 21, deeper);
                default: return 0;
            }
        }

        private void leave(int number) {
            if (size < MOST_TRACED) {
                traced[size] = number;
                size++;
            }
        }
    }
}
