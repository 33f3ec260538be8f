/** Sentences of GUARD, CHANGE, TUNED and SPARED: part 3 of the Terms, promises 22 to 25. */
final class SearchEdges {
    private static final int[] NO_HALF = {-1, 2, Due.MIN, Due.MAX};
    private static final String EIGHT = "k8;g0,9;g0,9;g0,9;g0,9;g0,9;g0,9;g0,9;g0,9;";

    private SearchEdges() {
    }

    private static void guard(JarNotes x, int k, int howMany, int which) {
        Due.is("how many for " + k, x.guard(0, 0, k, 0), howMany);
        Due.is("which for " + k, x.guard(0, 0, k, 1), which);
    }

    private static void changes(String text, int which, int howMany) {
        JarNotes x = Due.cellarOf(text);
        Due.is(text + ": which", x.changes(0), which);
        Due.is(text + ": how many", x.changes(1), howMany);
    }

    private static void tuned(JarNotes x, int jar, int which, int howMany) {
        Due.is("note of " + jar, x.tuned(jar, 0), which);
        Due.is("how many for " + jar, x.tuned(jar, 1), howMany);
    }

    private static void spared(JarNotes x, int which, int howMany) {
        Due.is("which", x.spared(0), which);
        Due.is("how many", x.spared(1), howMany);
    }

    // ---- Terms

    @Says(words = "GUARD of a SNEEZE, k (0 to 8): the fewest WHOLE JARS, OPENED now, by which no more than k BREAK by it:")
    static void theFewestToOpen() {
        JarNotes x = Due.cellarOf(EIGHT);
        for (int k = 0; k <= 8; k++) {
            guard(x, k, 8 - k, (1 << 8 - k) - 1);
        }
        JarNotes chain = Due.cellarOf("k1;g0,9;g0,9;g0,9;g0,9;g0,9;");
        guard(chain, 0, 2, 3);
        guard(chain, 1, 1, 2);
        guard(chain, 4, 1, 1);
        guard(chain, 5, 0, 0);
    }

    @Says(words = "the fewest WHOLE JARS, OPENED now,")
    static void wholeOnesAreOpened() {
        JarNotes x = Due.cellarOf(EIGHT);
        x.open(0);
        x.open(3);
        guard(x, 0, 6, 246);
        guard(x, 5, 1, 2);
        guard(x, 6, 0, 0);
        JarNotes none = Due.cellarOf("k8;g0,1;");
        none.years(1);
        guard(none, 0, 0, 0);
    }

    @Says(words = "by it: how many; which (bits), of several the least. CHANGE")
    static void theLeastToOpen() {
        JarNotes x = Due.cellarOf("k8;h7,9;g0,9;g0,9;");
        guard(x, 1, 1, 2);
        guard(x, 0, 2, 6);
        // opened, 1, 2 or 3 would do, for they spare all behind them; 0 would not
        JarNotes gap = Due.cellarOf("k1;g0,9;g0,9;g0,9;g0,9;g0,9;g0,9;");
        guard(gap, 3, 1, 2);
        guard(gap, 5, 1, 1);
    }

    @Says(words = "CHANGE: the two JARS (the lesser first) by which, their PLACES changed now, fewest BREAK by the WORST,")
    @Says(words = ": 10 the one, and the other one; how many; NONE. TUNED")
    static void theTwoToChange() {
        // two crocks 6 apart both hear a sneeze between them (REACH 3), 7 apart one alone; thick ones never go
        changes("k3;c3,9;h0,9;h0,9;h0,9;h0,9;h0,9;c3,9;h0,9;", 67, 1);
        changes("k3;h0,9;c3,9;h0,9;h0,9;h0,9;h0,9;h0,9;c3,9;", 1, 1);
        JarNotes x = Due.cellarOf("k3;c3,9;h0,9;h0,9;h0,9;h0,9;h0,9;c3,1;c3,9;");
        x.years(1);
        Due.is("as they stand 7 apart", x.changes(0), Due.NONE);
        x.change(6, 7);
        Due.is("a mouldy one changes, too", x.changes(0), 67);
        Due.is("how many", x.changes(1), 1);
    }

    @Says(words = "fewer than as it is,")
    static void noneIsFewer() {
        changes("k0;g0,9;g0,9;", Due.NONE, Due.NONE);
        changes("k8;g0,9;g0,9;g0,9;", Due.NONE, Due.NONE);
        changes("k1;g0,9;", Due.NONE, Due.NONE);
        changes("k1;h0,9;h0,9;", Due.NONE, Due.NONE);
        JarNotes x = Due.cellarOf("k3;c3,9;h0,9;h0,9;h0,9;h0,9;h0,9;c3,9;h0,9;");
        x.change(6, 7);
        Due.is("changed, it is the best", x.changes(0), Due.NONE);
        Due.is("how many", x.changes(1), Due.NONE);
    }

    @Says(words = ", of several the first: 10 the one")
    static void theFirstTwoToChange() {
        // 1 and 2 are next to each other: 3 apart one alone hears a sneeze, so 1 with 5, or 2 with 4 or 5
        changes("k1;h0,9;g5,9;g5,9;h0,9;h0,9;h0,9;", 15, 1);
        changes("k1;h0,9;g5,9;g5,9;h0,9;", Due.NONE, Due.NONE);
        changes("k1;g5,9;g5,9;h0,9;h0,9;", 13, 1);
    }

    @Says(words = "TUNED for a JAR: the NOTE (0 to 11) by which, WHOLE and of that NOTE now, fewest BREAK by the WORST,")
    static void theNoteToSealWith() {
        // of any note but 11 the last one goes with one of the others
        JarNotes x = Due.cellarOf("k8;t1,9;t4,9;t7,9;g9,9;g10,9;g0,9;");
        tuned(x, 5, 11, 1);
        x.open(5);
        tuned(x, 5, 11, 1);
        x.undo();
        x.sneeze(0, 0);
        Due.is("two are broken", x.stand(1), 33);
        tuned(x, 5, 0, 1);
        JarNotes y = Due.cellarOf("k8;t1,9;t4,9;t7,9;t10,9;g0,1;");
        y.years(1);
        tuned(y, 4, 0, 2);
    }

    @Says(words = ", of several the least: which; how many. SPARED")
    static void theLeastNote() {
        tuned(Due.cellarOf("k8;g7,9;"), 0, 0, 1);
        tuned(Due.cellarOf("k8;h7,9;"), 0, 0, 0);
        tuned(Due.cellarOf("k8;g0,9;g0,9;"), 0, 1, 1);
        tuned(Due.cellarOf("k8;g0,9;g1,9;g1,9;"), 2, 2, 1);
        tuned(Due.cellarOf("k8;g3,9;g3,9;g3,9;"), 0, 0, 2);
        // the other three go one by one; a crock of any note goes with one of them at least
        tuned(Due.cellarOf("k5;c11,9;t0,9;c9,9;g10,9;"), 0, 0, 2);
        // found by a search, and by Plain too: whatever its note is, all eight go
        JarNotes all = Due.cellarOf("k8;c3,9;s5,9;s5,9;c0,9;c4,9;t11,9;c3,9;t2,9;");
        all.worst(0);
        tuned(all, 7, 0, 8);
        all.tuned(0, 0);
        tuned(all, 7, 0, 8);
    }

    @Says(words = "SPARED: the WHOLE JAR, OPENED now, by which fewest BREAK by the WORST,")
    static void whomAThiefSpares() {
        // the thin one goes with each of the two glasses; without it they go one by one
        spared(Due.cellarOf("k8;g0,9;g2,9;h5,9;h5,9;h5,9;h5,9;h5,9;t1,9;"), 7, 1);
        JarNotes x = Due.cellarOf(EIGHT);
        spared(x, 0, 7);
        x.open(0);
        spared(x, 1, 6);
    }

    @Says(words = ", of several the least: which; how many; NONE: none")
    static void theLeastJarToSpare() {
        spared(Due.cellarOf("k0;g0,9;g1,9;g2,9;"), 0, 1);
        spared(Due.cellarOf("k8;h5,9;h5,9;"), 0, 0);
        spared(Due.cellarOf("k8;h5,9;g1,9;g1,9;"), 1, 1);
        JarNotes eight = Due.cellarOf("k8;g5,9;g5,9;g5,9;g5,9;g5,9;g5,9;g5,9;g5,9;");
        Due.is("the worst", eight.worst(0), 500);
        spared(eight, 0, 7);
        JarNotes x = Due.cellarOf("k0;g0,9;g1,9;g2,9;");
        x.open(0);
        spared(x, 1, 1);
        x.open(1);
        spared(x, 2, 0);
    }

    @Says(words = "NONE: none is WHOLE.")
    static void noneToSpare() {
        JarNotes x = Due.cellarOf("k0;g0,9;g1,1;g2,9;");
        x.sneeze(0, 0);
        x.years(1);
        spared(x, 2, 0);
        x.open(2);
        spared(x, Due.NONE, Due.NONE);
    }

    // ---- Promise 22

    @Says(promise = 22, words = "GUARD: how many (what = 0), which (1).")
    static void guard() {
        JarNotes x = Due.cellarOf("k8;g1,9;g1,9;g1,9;");
        Due.is("how many", x.guard(1, 2, 1, 0), 2);
        Due.is("which", x.guard(1, 2, 1, 1), 3);
        JarNotes far = Due.cellarOf("k0;g2,9;h2,9;h2,9;g2,9;");
        Due.is("how many at place 3", far.guard(2, 3, 0, 0), 1);
        Due.is("which at place 3", far.guard(2, 3, 0, 1), 8);
        Due.is("how many at place 1", far.guard(2, 1, 0, 0), 0);
        Due.is("which at place 1", far.guard(2, 1, 0, 1), 0);
        Due.is("the last note", x.guard(11, 2, 0, 0), 0);
        Due.is("of the last note", x.guard(11, 2, 0, 1), 0);
        Due.is("the most", x.guard(1, 0, 8, 0), 0);
        Due.is("of the most", x.guard(1, 0, 8, 1), 0);
    }

    @Says(promise = 22, words = "BAD.")
    static void noSuchGuard() {
        JarNotes x = Due.cellarOf("k8;t0,9;t0,9;");
        for (int v : new int[] {-1, 12, Due.MIN, Due.MAX}) {
            Due.is("note " + v, x.guard(v, 0, 0, 0), Due.BAD);
        }
        for (int v : new int[] {-1, 2, 8, Due.MIN, Due.MAX}) {
            Due.is("place " + v, x.guard(0, v, 0, 0), Due.BAD);
            Due.is("what " + v, x.guard(0, 0, 0, v), Due.BAD);
        }
        for (int v : new int[] {-1, 9, Due.MIN, Due.MAX}) {
            Due.is("k " + v, x.guard(0, 0, v, 0), Due.BAD);
        }
        Due.is("no cellar", new JarNotes().guard(0, 0, 0, 0), Due.BAD);
    }

    // ---- Promise 23

    @Says(promise = 23, words = "CHANGE: which (what = 0), how many (1); NONE.")
    static void changes() {
        changes("k1;g5,9;g5,9;h0,9;h0,9;", 13, 1);
        changes("k1;g5,9;g5,9;h0,9;", Due.NONE, Due.NONE);
    }

    @Says(promise = 23, words = "BAD;")
    static void noSuchChange() {
        JarNotes x = Due.cellarOf("k8;t0,9;");
        for (int what : NO_HALF) {
            Due.is("changes(" + what + ")", x.changes(what), Due.BAD);
        }
    }

    @Says(promise = 23, words = "STATE: no CELLAR (ahead of BAD).")
    static void changesOfNoCellar() {
        JarNotes x = new JarNotes();
        for (int what : new int[] {0, 1, -1, 2, Due.MIN, Due.MAX}) {
            Due.is("changes(" + what + ")", x.changes(what), Due.STATE);
        }
    }

    // ---- Promise 24

    @Says(promise = 24, words = "TUNED: which (what = 0), how many (1).")
    static void tuned() {
        JarNotes x = Due.cellarOf("k8;g0,9;g0,9;g0,9;");
        tuned(x, 0, 1, 2);
        tuned(x, 2, 1, 2);
        Due.is("its note stays", x.jar(0, 0), 0);
    }

    @Says(promise = 24, words = "BAD.")
    static void noSuchTuned() {
        JarNotes x = Due.cellarOf("k8;t0,9;");
        for (int v : new int[] {-1, 1, 8, Due.MIN, Due.MAX}) {
            Due.is("jar " + v, x.tuned(v, 0), Due.BAD);
        }
        for (int v : NO_HALF) {
            Due.is("what " + v, x.tuned(0, v), Due.BAD);
        }
        Due.is("no cellar", new JarNotes().tuned(0, 0), Due.BAD);
    }

    // ---- Promise 25

    @Says(promise = 25, words = "SPARED: which (what = 0), how many (1); NONE.")
    static void spared() {
        JarNotes x = Due.cellarOf("k8;h0,9;g4,9;");
        spared(x, 1, 0);
        x.open(1);
        spared(x, 0, 0);
        x.open(0);
        spared(x, Due.NONE, Due.NONE);
    }

    @Says(promise = 25, words = "BAD;")
    static void noSuchSpared() {
        JarNotes x = Due.cellarOf("k8;t0,9;");
        for (int what : NO_HALF) {
            Due.is("spared(" + what + ")", x.spared(what), Due.BAD);
        }
        x.open(0);
        for (int what : NO_HALF) {
            Due.is("spared(" + what + "), none is whole", x.spared(what), Due.BAD);
        }
    }

    @Says(promise = 25, words = "STATE: no CELLAR (ahead of BAD).")
    static void sparedOfNoCellar() {
        JarNotes x = new JarNotes();
        for (int what : new int[] {0, 1, -1, 2, Due.MIN, Due.MAX}) {
            Due.is("spared(" + what + ")", x.spared(what), Due.STATE);
        }
    }
}
