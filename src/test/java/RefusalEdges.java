import java.util.LinkedHashMap;
import java.util.Map;
import java.util.function.ToLongFunction;

/** Sentences of numbers, refusals and findings, at the head of the Terms. */
final class RefusalEdges {
    private RefusalEdges() {
    }

    /** Something of everything: rows, a trace, images, acts, a fault, bytes on the tape, jars that are not whole. */
    private static JarNotes full() {
        JarNotes x = new JarNotes();
        Due.read(x, "k9;");
        Due.read(x, "k2;g0,60;t1,60;h2,1;s3,60;c4,60;");
        x.image(0);
        x.years(1);
        x.open(1);
        x.sneeze(10, 4);
        x.change(0, 4);
        x.reach(7);
        Due.fill(x, 0, 0, 0, 3, 0);
        Due.fill(x, 1, 1, 3, 0);
        Due.fill(x, 2, 2, 12, 0);
        x.ask(1, 0);
        Due.feed(x, "k1;h7,7;");
        return x;
    }

    /** All that can be seen of an object but its status; to tell it uses the object up. */
    private static String seen(JarNotes x) {
        StringBuilder all = new StringBuilder();
        tellCellar(x, all);
        for (int i = 0; i <= 16; i++) {
            all.append(" trace ").append(x.trace(i));
        }
        all.append(" fault ").append(x.fault());
        for (int row = 0; row <= 7; row++) {
            for (int i = 0; i < 4; i++) {
                all.append(" item ").append(x.song(0, row, i, 1));
            }
            for (int lane = 0; lane <= 2; lane++) {
                all.append(" store ").append(x.copy(row, 0, lane, 0, 0));
            }
        }
        for (int row = 0; row <= 7; row++) {
            all.append(" drop ").append(x.drop(row));
        }
        for (int n = 0; n < 6; n++) {
            all.append(" undo ").append(x.undo());
            tellCellar(x, all);
        }
        for (int k = 0; k <= 1; k++) {
            all.append(" restore ").append(x.restore(k));
            tellCellar(x, all);
        }
        all.append(" cellar ").append(x.cellar());
        tellCellar(x, all);
        return all.toString();
    }

    private static void tellCellar(JarNotes x, StringBuilder all) {
        for (int what = 0; what <= 7; what++) {
            all.append(" count ").append(x.count(what));
        }
        for (int jar = 0; jar < 5; jar++) {
            all.append(" kind ").append(x.kind(jar));
            for (int what = 0; what <= 3; what++) {
                all.append(" jar ").append(x.jar(jar, what));
            }
        }
    }

    @Says(words = "Numbers go from 0 on.")
    static void numbersGoFromNought() {
        JarNotes x = Due.cellarOf("k0;g0,1;");
        Due.is("ROW 0", x.row(0, 0, 1), 1);
        Due.is("no ROW -1", x.row(-1, 0, 1), Due.BAD);
        Due.is("ITEM 0", x.set(0, 0, 5), 5);
        Due.is("no ITEM -1", x.set(0, -1, 5), Due.PLACE);
        Due.is("JAR 0", x.jar(0, 1), 1);
        Due.is("no JAR -1", x.jar(-1, 1), Due.BAD);
        Due.is("no JAR 1", x.jar(1, 1), Due.BAD);
        Due.is("NOTE 0 at PLACE 0", x.chain(0, 0, 0), 1);
        Due.is("no NOTE -1", x.chain(-1, 0, 0), Due.BAD);
        Due.is("no PLACE -1", x.chain(0, -1, 0), Due.BAD);
        Due.is("no PLACE 1", x.chain(0, 1, 0), Due.BAD);
        Due.is("IMAGE 0", x.image(0), 1);
    }

    @Says(words = "All that is divided is cut towards 0, but fractions, told as two numbers in lowest terms (0 is 0 by 1).")
    static void fractionsAreNotCut() {
        JarNotes x = Due.cellarOf("k0;g0,9;g0,9;");
        long[][] due = {{1, 1}, {9, 10}, {4, 5}, {7, 10}, {3, 5}, {1, 2}, {2, 5}, {3, 10}, {1, 5}, {1, 10}, {0, 1}};
        for (int p = 0; p <= 10; p++) {
            Due.is("above, by " + p, x.mould(0, 0, 0, p, 0), due[p][0]);
            Due.is("below, by " + p, x.mould(0, 0, 0, p, 1), due[p][1]);
        }
        Due.is("0 by p 5: above", x.mould(0, 1, 0, 5, 0), 0);
        Due.is("0 by p 5: below", x.mould(0, 1, 0, 5, 1), 1);
    }

    @Says(words = "Sets are bits.")
    static void setsAreBits() {
        JarNotes x = Due.cellarOf("k0;g0,9;g0,9;g0,9;g0,9;g0,9;g0,9;g0,9;g0,9;");
        Due.is("all", x.stand(0), 255);
        Due.is("none", x.stand(3), 0);
        for (int jar = 0; jar <= 7; jar++) {
            x.open(jar);
            Due.is("up to " + jar, x.stand(3), (2 << jar) - 1);
        }
    }

    @Says(words = "Refusals are answers, the first of these that fits, but as told: BAD")
    static void badIsTheFirst() {
        JarNotes x = new JarNotes();
        Due.is("ahead of STATE: image", x.image(2), Due.BAD);
        Due.is("ahead of STATE: restore", x.restore(2), Due.BAD);
        Due.is("ahead of SIZE", x.row(0, 3, -1), Due.BAD);
        Due.is("ahead of NULL", x.copy(0, 0, 8, 0, 0), Due.BAD);
        Due.read(x, "k0;g0,9;");
        Due.is("ahead of STATE: seal", x.seal(0, 12, 1), Due.BAD);
        Due.is("ahead of NULL: song", x.song(0, 0, 0, 0), Due.BAD);
        Due.is("ahead of NULL: who", x.who(0, 0, 0, 0, 0, 0), Due.BAD);
        Due.is("ahead of NULL: reaches", x.reaches(0, 0, 0, 0), Due.BAD);
        Due.is("ahead of KIND", x.as(0, 6), Due.BAD);
        for (int n = 0; n < 90; n++) {
            x.feed('k');
        }
        Due.is("ahead of FULL: feed", x.feed(256), Due.BAD);
        for (int n = 0; n < 41; n++) {
            x.years(24);
        }
        Due.is("ahead of FULL: years", x.years(25), Due.BAD);
    }

    @Says(words = "but as told:")
    static void noCellarGoesAheadWhereItIsTold() {
        JarNotes x = new JarNotes();
        Due.is("years", x.years(0), Due.STATE);
        Due.is("reach", x.reach(9), Due.STATE);
        Due.is("stand", x.stand(4), Due.STATE);
        Due.is("worst", x.worst(2), Due.STATE);
        Due.is("kept", x.kept(61), Due.STATE);
        Due.is("changes", x.changes(2), Due.STATE);
        Due.is("spared", x.spared(2), Due.STATE);
        Due.is("alike", x.alike(2), Due.STATE);
        Due.is("song", x.song(2, 8, -1, 0), Due.STATE);
        Due.is("drawn", x.drawn(61, 0, 2), Due.STATE);
    }

    @Says(words = "BAD (a number is not as told; there is no such thing),")
    static void bad() {
        JarNotes x = new JarNotes();
        Due.is("no such thing: a jar of no cellar", x.kind(0), Due.BAD);
        Due.is("no such thing: a place of no cellar", x.sneeze(0, 0), Due.BAD);
        Due.is("not as told", x.feed(256), Due.BAD);
        Due.read(x, "k0;g0,9;");
        Due.is("no such thing: a jar", x.kind(1), Due.BAD);
        Due.is("not as told", x.reach(9), Due.BAD);
    }

    @Says(words = "STATE (as told),")
    static void state() {
        JarNotes x = new JarNotes();
        Due.is("no cellar", x.stand(0), Due.STATE);
        Due.is("none to undo", x.undo(), Due.STATE);
        Due.is("none was kept", x.restore(1), Due.STATE);
        Due.read(x, "k0;g0,9;");
        Due.is("it is whole", x.seal(0, 0, 1), Due.STATE);
        x.open(0);
        Due.is("it is not whole", x.open(0), Due.STATE);
    }

    @Says(words = "FULL (as told),")
    static void fullAsTold() {
        JarNotes x = Due.cellarOf("k0;g0,9;");
        for (int n = 0; n < 90; n++) {
            x.feed('k');
        }
        Due.is("the tape", x.feed('k'), Due.FULL);
        for (int n = 0; n < 41; n++) {
            x.years(24);
        }
        Due.is("the years", x.years(16), Due.FULL);
    }

    @Says(words = "then FINDINGS, of several the first in time:")
    static void theFirstFinding() {
        JarNotes x = Due.cellarOf("k0;g0,9;");
        Due.fill(x, 0, 0, 12, 12);
        x.row(1, 1, 0);
        Due.is("NULL, then PLACE: set", x.set(7, -1, 0), Due.NULL);
        Due.is("NULL, then PLACE: copy", x.copy(0, 9, 7, 9, 9), Due.NULL);
        Due.is("STORE, then PLACE", x.copy(0, 9, 1, 9, 9), Due.STORE);
        Due.is("NULL, then PLACE: song", x.song(0, 7, 9, 9), Due.NULL);
        Due.is("NULL, then PLACE: who", x.who(0, 0, 0, 7, 9, 9), Due.NULL);
        Due.is("NULL, then PLACE: reaches", x.reaches(0, 7, 9, 9), Due.NULL);
        Due.is("PLACE, then KIND", x.song(0, 0, 0, 3), Due.PLACE);
        Due.is("status tells that one", x.status(), 2);
    }

    @Says(words = "-1000010 less 1 NULL (a ROW that is missing),")
    static void findingOfAMissingRow() {
        JarNotes x = new JarNotes();
        Due.is("drop", x.drop(0), -1000011);
        Due.is("status", x.status(), 1);
    }

    @Says(words = "2 PLACE (no such place of a ROW),")
    static void findingOfNoPlace() {
        JarNotes x = new JarNotes();
        x.row(0, 0, 1);
        Due.is("set", x.set(0, 1, 0), -1000012);
        Due.is("status", x.status(), 2);
    }

    @Says(words = "3 KIND (a JAR that is not that),")
    static void findingOfNoSuchKind() {
        JarNotes x = Due.cellarOf("k0;g0,9;");
        Due.is("as", x.as(0, 5), -1000013);
        Due.is("status", x.status(), 3);
    }

    @Says(words = "4 SIZE (fewer than none),")
    static void findingOfFewerThanNone() {
        JarNotes x = new JarNotes();
        Due.is("row", x.row(0, 0, -1), -1000014);
        Due.is("status", x.status(), 4);
    }

    @Says(words = "5 STORE (ROWS of two LANES).")
    static void findingOfTwoLanes() {
        JarNotes x = new JarNotes();
        x.row(0, 0, 1);
        x.row(1, 1, 1);
        Due.is("copy", x.copy(0, 0, 1, 0, 1), -1000015);
        Due.is("status", x.status(), 5);
    }

    @Says(words = "What is refused, or found, changes nothing but status().")
    static void refusalsChangeNothing() {
        String untouched = seen(full());
        Map<String, ToLongFunction<JarNotes>> calls = new LinkedHashMap<>();
        refusedRows(calls);
        refusedActs(calls);
        refusedForetelling(calls);
        for (Map.Entry<String, ToLongFunction<JarNotes>> call : calls.entrySet()) {
            JarNotes x = full();
            long answer = call.getValue().applyAsLong(x);
            Due.holds(call.getKey() + " is refused or found", answer <= -1000001 && answer >= -1000015);
            Due.is("status behind " + call.getKey(), x.status(), answer < -1000010 ? -1000010 - answer : 0);
            Due.holds(call.getKey() + " changes nothing", seen(x).equals(untouched));
        }
    }

    private static void refusedRows(Map<String, ToLongFunction<JarNotes>> calls) {
        calls.put("row, no such row", x -> x.row(8, 0, 1));
        calls.put("row, no such lane", x -> x.row(0, 3, 1));
        calls.put("row, above 40", x -> x.row(0, 0, 41));
        calls.put("row, fewer than none", x -> x.row(0, 0, -1));
        calls.put("row, fewer than none of a missing one", x -> x.row(7, 0, -1));
        calls.put("set, no such row", x -> x.set(-1, 0, 1));
        calls.put("set, missing", x -> x.set(7, 0, 1));
        calls.put("set, no such place", x -> x.set(0, 3, 1));
        calls.put("copy, no such row", x -> x.copy(0, 0, 8, 0, 1));
        calls.put("copy, missing", x -> x.copy(0, 0, 7, 0, 1));
        calls.put("copy, two lanes", x -> x.copy(0, 0, 1, 0, 1));
        calls.put("copy, beyond its end", x -> x.copy(0, 2, 0, 0, 2));
        calls.put("copy, beyond the other end", x -> x.copy(0, 0, 0, 2, 2));
        calls.put("drop, no such row", x -> x.drop(8));
        calls.put("drop, missing", x -> x.drop(7));
        calls.put("song, no such row", x -> x.song(0, 8, 0, 1));
        calls.put("song, missing", x -> x.song(0, 7, 0, 1));
        calls.put("song, beyond", x -> x.song(0, 0, 0, 4));
        calls.put("song, no note", x -> x.song(0, 2, 0, 1));
        calls.put("who, no such row", x -> x.who(0, 0, 0, 8, 0, 1));
        calls.put("who, missing", x -> x.who(0, 0, 0, 7, 0, 1));
        calls.put("who, beyond", x -> x.who(0, 1, 0, 0, 0, 4));
        calls.put("reaches, no such row", x -> x.reaches(0, 8, 0, 1));
        calls.put("reaches, missing", x -> x.reaches(0, 7, 0, 1));
        calls.put("reaches, beyond", x -> x.reaches(0, 0, 0, 4));
        calls.put("as, no such kind", x -> x.as(0, 6));
        calls.put("as, no such one", x -> x.as(0, 5));
    }

    private static void refusedActs(Map<String, ToLongFunction<JarNotes>> calls) {
        calls.put("feed", x -> x.feed(256));
        calls.put("years, none", x -> x.years(0));
        calls.put("years, 25", x -> x.years(25));
        calls.put("sneeze, no such note", x -> x.sneeze(12, 0));
        calls.put("sneeze, no such place", x -> x.sneeze(0, 5));
        calls.put("open, no such jar", x -> x.open(5));
        calls.put("open, opened", x -> x.open(1));
        calls.put("open, mouldy", x -> x.open(2));
        calls.put("open, broken", x -> x.open(4));
        calls.put("change, no such jar", x -> x.change(0, 5));
        calls.put("change, alike", x -> x.change(0, 0));
        calls.put("seal, no such jar", x -> x.seal(5, 0, 1));
        calls.put("seal, no such note", x -> x.seal(1, 12, 1));
        calls.put("seal, no such years", x -> x.seal(1, 0, 61));
        calls.put("seal, whole", x -> x.seal(0, 0, 1));
        calls.put("reach", x -> x.reach(9));
        calls.put("jar", x -> x.jar(0, 4));
        calls.put("stand", x -> x.stand(4));
        calls.put("image", x -> x.image(2));
        calls.put("restore, no such image", x -> x.restore(2));
        calls.put("restore, none was kept", x -> x.restore(1));
        calls.put("kind", x -> x.kind(5));
        calls.put("ask, no such jar", x -> x.ask(5, 0));
        calls.put("ask, no such ask", x -> x.ask(0, 2));
        calls.put("count", x -> x.count(8));
    }

    private static void refusedForetelling(Map<String, ToLongFunction<JarNotes>> calls) {
        calls.put("chain", x -> x.chain(0, 5, 0));
        calls.put("worst", x -> x.worst(2));
        calls.put("when", x -> x.when(5));
        calls.put("kept", x -> x.kept(61));
        calls.put("guard", x -> x.guard(0, 0, 9, 0));
        calls.put("changes", x -> x.changes(2));
        calls.put("tuned, no such jar", x -> x.tuned(5, 0));
        calls.put("tuned, no such answer", x -> x.tuned(0, 2));
        calls.put("spared", x -> x.spared(2));
        calls.put("alike", x -> x.alike(2));
        calls.put("song", x -> x.song(2, 0, 0, 1));
        calls.put("who, no such answer", x -> x.who(0, 2, 0, 0, 0, 1));
        calls.put("reaches, none", x -> x.reaches(0, 0, 0, 0));
        calls.put("mould", x -> x.mould(0, 0, 0, 11, 0));
        calls.put("drawn, no such seed", x -> x.drawn(60, 0, 0));
        calls.put("drawn, 61", x -> x.drawn(61, 1, 0));
    }

    @Says(words = "What is refused, or found, changes nothing but status().")
    static void fullOnesChangeNothing() {
        JarNotes x = Due.cellarOf("k0;g0,9;");
        for (int n = 0; n < 41; n++) {
            x.years(24);
        }
        x.undo();
        Due.is("years, FULL", x.years(17), Due.FULL);
        Due.is("year", x.count(2), 983);
        Due.is("acts", x.count(6), 23);
        Due.is("undo", x.undo(), 22);
        Due.is("the year before", x.count(2), 982);
        Due.feed(x, "k0;g0,1;");
        for (int n = 8; n < 90; n++) {
            x.feed(';');
        }
        Due.is("feed, FULL", x.feed('x'), Due.FULL);
        Due.is("the tape", x.count(7), 90);
        Due.is("as it was", x.cellar(), -1000108);
    }
}
