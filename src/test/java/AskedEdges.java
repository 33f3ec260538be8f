/** Sentences of KINDS and ASKS, and of what is counted: parts 3 and 4 of the Terms, promises 34 to 38. */
final class AskedEdges {
    // Of each kind one of the least, and one of the most that can be told.
    private static final String LEAST = "k0;g0,1;t0,1;h0,1;s0,1;c0,1;";
    private static final String MOST = "k8;h0,1;h0,1;h0,1;g11,60;t11,60;h11,60;s11,60;c11,60;";

    private AskedEdges() {
    }

    private static void asked(JarNotes x, int jar, int what, int answer, int... trace) {
        String ask = "ask(" + jar + ", " + what + ")";
        Due.is(ask, x.ask(jar, what), answer);
        for (int i = 0; i < trace.length; i++) {
            Due.is("trace(" + i + ") of " + ask, x.trace(i), trace[i]);
        }
        Due.is("the end of the trace of " + ask, x.trace(trace.length), Due.NONE);
    }

    private static void as(String sort, int... are) {
        JarNotes x = Due.cellarOf("k0;" + sort + "0,9;");
        for (int kind = 0; kind <= 5; kind++) {
            boolean is = false;
            for (int k : are) {
                is |= k == kind;
            }
            Due.is(sort + " as " + kind, x.as(0, kind), is ? 0 : Due.KIND);
        }
        Due.is("the kind of " + sort, x.kind(0), are[are.length - 1]);
    }

    // ---- Terms: KINDS

    @Says(words = "KINDS of JARS: 0 JAR; 1 GLASS, a JAR;")
    static void glassIsAJar() {
        as("g", 0, 1);
    }

    @Says(words = "2 THIN, a GLASS;")
    static void thinIsAGlass() {
        as("t", 0, 1, 2);
    }

    @Says(words = "3 THICK, a GLASS;")
    static void thickIsAGlass() {
        as("h", 0, 1, 3);
    }

    @Says(words = "4 STONE, a JAR;")
    static void stoneIsAJar() {
        as("s", 0, 4);
    }

    @Says(words = "5 CROCK, a STONE. By this it is asked.")
    static void crockIsAStone() {
        as("c", 0, 4, 5);
    }

    // ---- Terms: ASKS

    @Says(words = "ASKS of JARS, by BODIES, each of which leaves its number in THE TRACE as it begins")
    static void bodiesLeaveTheirNumbers() {
        JarNotes x = Due.cellarOf(LEAST);
        asked(x, 1, 0, -4, 12, 11, 10, 24, 21, 20);
        asked(x, 4, 1, 204, 23, 20, 14, 13, 10);
    }

    @Says(words = "(the first 16)")
    static void noMoreThanSixteen() {
        JarNotes x = Due.cellarOf(MOST);
        for (int n = 0; n < 5; n++) {
            x.ask(4, 0);
        }
        // no ask comes to 16 of them; each begins with none
        Due.is("the sixth", x.trace(5), 20);
        for (int i = 6; i <= 17; i++) {
            Due.is("trace(" + i + ")", x.trace(i), Due.NONE);
        }
    }

    @Says(words = ": 0 SIZE: 10 lent to all JARS: NOTE.")
    static void body10() {
        JarNotes x = Due.cellarOf("k0;s0,1;s11,1;");
        asked(x, 0, 0, -100, 13, 10);
        asked(x, 1, 0, -89, 13, 10);
        x.open(0);
        x.seal(0, 7, 3);
        asked(x, 0, 0, -93, 13, 10);
    }

    @Says(words = "11 of GLASS ones: what 10 gives, and MARK.")
    static void body11() {
        asked(Due.cellarOf(LEAST), 0, 0, 1, 11, 10, 21, 20);
        asked(Due.cellarOf(MOST), 3, 0, 11 + 3 + 60, 11, 10, 21, 20);
    }

    @Says(words = "12 of THIN ones: 0 less what 11 gives.")
    static void body12() {
        asked(Due.cellarOf(LEAST), 1, 0, -(2 * (1 + 1)), 12, 11, 10, 24, 21, 20);
        asked(Due.cellarOf(MOST), 4, 0, -(11 + 2 * (4 + 60)), 12, 11, 10, 24, 21, 20);
    }

    @Says(words = "13 of STONE ones: what 10 gives, less 100.")
    static void body13() {
        asked(Due.cellarOf(LEAST), 3, 0, -100, 13, 10);
        asked(Due.cellarOf(MOST), 6, 0, -89, 13, 10);
    }

    @Says(words = "14 of CROCKS: what 13 gives, twice.")
    static void body14() {
        asked(Due.cellarOf(LEAST), 4, 0, -200, 14, 13, 10);
        asked(Due.cellarOf(MOST), 7, 0, -178, 14, 13, 10);
    }

    @Says(words = "1 MARK: 20 lent to all JARS: the number.")
    static void body20() {
        JarNotes x = Due.cellarOf("k0;s0,1;s0,1;s0,1;s0,1;s0,1;s0,1;s0,1;s0,1;");
        asked(x, 0, 1, 100, 23, 20, 13, 10);
        asked(x, 7, 1, 107, 23, 20, 13, 10);
        x.change(0, 7);
        asked(x, 0, 1, 100, 23, 20, 13, 10);
    }

    @Says(words = "21 of GLASS ones: what 20 gives, and YEARS that it keeps.")
    static void body21() {
        asked(Due.cellarOf(MOST), 3, 1, 63, 21, 20);
        JarNotes x = Due.cellarOf(LEAST);
        asked(x, 0, 1, 1, 21, 20);
        x.years(1);
        asked(x, 0, 1, 0, 21, 20);
    }

    @Says(words = "22 of THICK ones: what 21 gives, less 1000.")
    static void body22() {
        asked(Due.cellarOf(LEAST), 2, 1, 2 + 1 - 1000, 22, 21, 20);
        asked(Due.cellarOf(MOST), 5, 1, 5 + 60 - 1000, 22, 21, 20);
    }

    @Says(words = "23 of STONE ones: what 20 gives, less SIZE.")
    static void body23() {
        asked(Due.cellarOf(LEAST), 3, 1, 3 + 100, 23, 20, 13, 10);
        asked(Due.cellarOf(MOST), 6, 1, 6 + 89, 23, 20, 13, 10);
    }

    @Says(words = "24 of THIN ones: what 21 gives, twice.")
    static void body24() {
        asked(Due.cellarOf(LEAST), 1, 1, 4, 24, 21, 20);
        asked(Due.cellarOf(MOST), 4, 1, 2 * (4 + 60), 24, 21, 20);
    }

    @Says(words = "(Of an ask the BODY told for the KIND begins, else that of the nearest KIND that it is, too,")
    @Says(words = "else the one that is lent;")
    static void theNearestBody() {
        JarNotes x = Due.cellarOf(LEAST);
        // by kind: what begins SIZE and MARK; a thick one has no SIZE and a crock no MARK of its own.
        // No kind is without a body for both, so what is lent begins for none.
        int[][] due = {{11, 21}, {12, 24}, {11, 22}, {13, 23}, {14, 23}};
        for (int jar = 0; jar < 5; jar++) {
            for (int what = 0; what <= 1; what++) {
                x.ask(jar, what);
                Due.is("what begins ask(" + jar + ", " + what + ")", x.trace(0), due[jar][what]);
            }
        }
    }

    @Says(words = "SIZE, MARK within others are asked of the same JAR anew.)")
    static void askedAnew() {
        JarNotes x = Due.cellarOf(MOST);
        asked(x, 5, 0, 11 + 5 + 60 - 1000, 11, 10, 22, 21, 20);
        asked(x, 4, 0, -(11 + 128), 12, 11, 10, 24, 21, 20);
        asked(x, 7, 1, 7 + 178, 23, 20, 14, 13, 10);
    }

    // ---- Promise 34

    @Says(promise = 34, words = "The KIND of a JAR, as told (1 to 5).")
    static void kinds() {
        JarNotes x = Due.cellarOf(MOST);
        int[] due = {3, 3, 3, 1, 2, 3, 4, 5};
        for (int jar = 0; jar <= 7; jar++) {
            Due.is("kind(" + jar + ")", x.kind(jar), due[jar]);
        }
        x.open(7);
        Due.is("opened", x.kind(7), 5);
        x.seal(7, 0, 1);
        x.change(7, 0);
        Due.is("sealed anew at another place", x.kind(7), 5);
    }

    @Says(promise = 34, words = "BAD.")
    static void noSuchJarOfAKind() {
        JarNotes x = Due.cellarOf("k0;g0,9;g0,9;");
        for (int jar : new int[] {-1, 2, 8, Due.MIN, Due.MAX}) {
            Due.is("kind(" + jar + ")", x.kind(jar), Due.BAD);
        }
        Due.is("no cellar", new JarNotes().kind(0), Due.BAD);
    }

    // ---- Promise 35

    @Says(promise = 35, words = "A JAR is taken as one of a KIND (0 .. 5): its number.")
    static void takenAs() {
        JarNotes x = Due.cellarOf(MOST);
        for (int jar = 0; jar <= 7; jar++) {
            Due.is("as(" + jar + ", 0)", x.as(jar, 0), jar);
        }
        Due.is("as(7, 5)", x.as(7, 5), 7);
        x.open(7);
        Due.is("opened", x.as(7, 4), 7);
    }

    @Says(promise = 35, words = "BAD;")
    static void notToBeTaken() {
        JarNotes x = Due.cellarOf("k0;g0,9;g0,9;");
        for (int jar : new int[] {-1, 2, 8, Due.MIN, Due.MAX}) {
            Due.is("jar " + jar, x.as(jar, 0), Due.BAD);
            Due.is("jar " + jar + " as a crock", x.as(jar, 5), Due.BAD);
        }
        for (int kind : new int[] {-1, 6, Due.MIN, Due.MAX}) {
            Due.is("kind " + kind, x.as(0, kind), Due.BAD);
        }
        Due.is("no cellar", new JarNotes().as(0, 0), Due.BAD);
    }

    @Says(promise = 35, words = "KIND: it is no such one.")
    static void noSuchOne() {
        JarNotes x = Due.cellarOf(LEAST);
        Due.is("a glass is no thin one", x.as(0, 2), Due.KIND);
        Due.is("a thin one is no thick one", x.as(1, 3), Due.KIND);
        Due.is("a thick one is no stone", x.as(2, 4), Due.KIND);
        Due.is("a stone is no crock", x.as(3, 5), Due.KIND);
        Due.is("a crock is no glass", x.as(4, 1), Due.KIND);
        Due.is("status", x.status(), 3);
    }

    // ---- Promise 36

    @Says(promise = 36, words = "An ASK (0, 1) of a JAR.")
    static void asks() {
        JarNotes x = Due.cellarOf(LEAST);
        asked(x, 0, 0, 1, 11, 10, 21, 20);
        asked(x, 0, 1, 1, 21, 20);
        x.open(0);
        asked(x, 0, 1, 1, 21, 20);
    }

    @Says(promise = 36, words = "BAD.")
    static void noSuchAsk() {
        JarNotes x = Due.cellarOf("k0;g0,9;g0,9;");
        x.ask(0, 1);
        for (int v : new int[] {-1, 2, 8, Due.MIN, Due.MAX}) {
            Due.is("jar " + v, x.ask(v, 0), Due.BAD);
            Due.is("what " + v, x.ask(0, v), Due.BAD);
        }
        Due.is("the trace stays", x.trace(0), 21);
        Due.is("and ends where it did", x.trace(2), Due.NONE);
        Due.is("no cellar", new JarNotes().ask(0, 0), Due.BAD);
    }

    @Says(promise = 36, words = "THE TRACE is empty ahead of it.")
    static void theTraceIsEmptyAhead() {
        JarNotes x = Due.cellarOf(LEAST);
        asked(x, 1, 0, -4, 12, 11, 10, 24, 21, 20);
        asked(x, 3, 0, -100, 13, 10);
        for (int i = 2; i <= 16; i++) {
            Due.is("nothing is left of the longer one", x.trace(i), Due.NONE);
        }
    }

    // ---- Promise 37

    @Says(promise = 37, words = "Number i of THE TRACE; NONE.")
    static void theTrace() {
        JarNotes x = new JarNotes();
        int[] edges = {0, 1, 15, 16, -1, Due.MIN, Due.MAX};
        for (int i : edges) {
            Due.is("a new object: trace(" + i + ")", x.trace(i), Due.NONE);
        }
        Due.read(x, LEAST);
        x.ask(3, 0);
        Due.is("the first", x.trace(0), 13);
        Due.is("the last", x.trace(1), 10);
        Due.is("behind it", x.trace(2), Due.NONE);
        Due.is("ahead of it", x.trace(-1), Due.NONE);
        Due.is("the least", x.trace(Due.MIN), Due.NONE);
        Due.is("the most", x.trace(Due.MAX), Due.NONE);
        Due.is("told again", x.trace(0), 13);
    }

    // ---- Promise 38

    @Says(promise = 38, words = "How many: 0 ROWS, 1 JARS, 2 YEAR, 3 REACH,")
    static void countsOfRowsJarsYearAndReach() {
        JarNotes x = Due.cellarOf(MOST);
        for (int row = 0; row <= 7; row++) {
            x.row(row, 0, 0);
        }
        x.years(24);
        int[] due = {8, 8, 24, 8};
        for (int what = 0; what <= 3; what++) {
            Due.is("count(" + what + ")", x.count(what), due[what]);
        }
        x.drop(3);
        Due.is("a row is dropped", x.count(0), 7);
        x.row(0, 0, -1);
        Due.is("none is laid", x.count(0), 7);
    }

    @Says(promise = 38, words = "4 how many are WHOLE, 5 how many are BROKEN,")
    static void countsOfWholeAndBroken() {
        JarNotes x = Due.cellarOf("k8;g0,9;g0,9;g0,9;g0,9;g0,9;g0,9;g0,9;g0,9;");
        Due.is("all are whole", x.count(4), 8);
        Due.is("none is broken", x.count(5), 0);
        x.open(2);
        x.sneeze(0, 0);
        Due.is("none is whole", x.count(4), 0);
        Due.is("all but the opened one are broken", x.count(5), 7);
    }

    @Says(promise = 38, words = "6 ACTS that can be undone, 7 bytes on the tape.")
    static void countsOfActsAndBytes() {
        JarNotes x = Due.cellarOf(LEAST);
        Due.is("no act", x.count(6), 0);
        x.years(24);
        x.years(24);
        Due.is("24 acts at most", x.count(6), 24);
        x.undo();
        Due.is("one undone", x.count(6), 23);
        Due.is("no bytes", x.count(7), 0);
        for (int n = 0; n <= 90; n++) {
            x.feed('k');
        }
        Due.is("90 bytes at most", x.count(7), 90);
    }

    @Says(promise = 38, words = "BAD.")
    static void noSuchCount() {
        JarNotes x = new JarNotes();
        for (int what : new int[] {-1, 8, Due.MIN, Due.MAX}) {
            Due.is("count(" + what + ")", x.count(what), Due.BAD);
        }
    }
}
