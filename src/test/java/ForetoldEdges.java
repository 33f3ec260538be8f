/** Sentences of what is foretold, and of IMAGES: part 3 of the Terms, promises 18 to 21, 26, 32 and 33. */
final class ForetoldEdges {
    private static final int[] NO_HALF = {-1, 2, Due.MIN, Due.MAX};

    private ForetoldEdges() {
    }

    // ---- Terms

    @Says(words = "FORETOLD (nothing changes).")
    static void nothingChanges() {
        JarNotes x = Due.cellarOf("k2;g0,9;t1,1;h0,9;s5,9;c6,9;g0,9;");
        x.years(1);
        x.open(5);
        Due.fill(x, 0, 0, 0, 1, 5);
        x.ask(0, 0);
        for (int half = 0; half <= 1; half++) {
            x.chain(0, 0, half);
            x.worst(half);
            x.when(0);
            x.kept(60);
            x.guard(0, 0, 0, half);
            x.changes(half);
            x.tuned(5, half);
            x.spared(half);
            x.alike(half);
            x.song(half, 0, 0, 3);
            x.who(0, half, 0, 0, 0, 3);
            x.reaches(0, 0, 0, 3);
            x.mould(0, 0, 0, 5, half);
            x.drawn(60, 3, half);
        }
        int[][] due = {{0, 8, 0, 0, 1}, {1, 0, 1, 2, 2}, {0, 8, 2, 0, 3}, {5, 8, 3, 0, 4}, {6, 8, 4, 0, 5},
            {0, 8, 5, 3, 1}};
        for (int j = 0; j < due.length; j++) {
            for (int what = 0; what <= 3; what++) {
                Due.is("jar " + j + ", " + what, x.jar(j, what), due[j][what]);
            }
            Due.is("kind " + j, x.kind(j), due[j][4]);
        }
        int[] counts = {1, 6, 1, 2, 4, 0, 2, 0};
        for (int what = 0; what <= 7; what++) {
            Due.is("count(" + what + ")", x.count(what), counts[what]);
        }
        Due.is("the row", x.song(0, 0, 2, 1), 8);
        Due.is("the trace", x.trace(0), 11);
    }

    @Says(words = "CHAIN of a SNEEZE: which BREAK (bits);")
    static void whichBreakInAChain() {
        JarNotes x = Due.cellarOf("k1;g0,9;g0,9;g0,9;g0,9;g0,9;g0,9;g0,9;g0,9;");
        Due.is("all", x.chain(0, 0, 0), 255);
        Due.is("none", x.chain(1, 0, 0), 0);
        x.open(1);
        Due.is("the first", x.chain(0, 0, 0), 1);
        Due.is("those behind the gap", x.chain(0, 7, 0), 252);
        Due.is("nothing is broken", x.stand(1), 0);
    }

    @Says(words = "in how many ROUNDS (those in which any does).")
    static void inHowManyRounds() {
        Due.is("none", Due.cellarOf("k8;g0,9;").chain(1, 0, 1), 0);
        Due.is("one", Due.cellarOf("k8;g0,9;").chain(0, 0, 1), 1);
        Due.is("eight", Due.cellarOf("k1;t1,9;g1,9;g1,9;g1,9;g1,9;g1,9;g1,9;g1,9;").chain(0, 0, 1), 8);
        Due.is("from the middle", Due.cellarOf("k1;g0,9;g0,9;g0,9;g0,9;g0,9;").chain(0, 2, 1), 2);
    }

    @Says(words = "WORST: of all SNEEZES (NOTES 0 to 11, PLACES that there are) that by which most BREAK,")
    @Says(words = ": 100 NOTE and PLACE; how many. WHEN")
    static void theWorstOfAll() {
        worst("k0;g0,9;", 0, 1);
        worst("k0;h0,9;h0,9;h0,9;h0,9;h0,9;h0,9;h0,9;g11,9;", 1107, 1);
        worst("k0;h0,9;h0,9;h0,9;h0,9;h0,9;h0,9;h0,9;g0,9;", 7, 1);
        worst("k1;g11,9;g11,9;g5,9;", 1100, 2);
        // two of a note, 2 apart, both hear it from the place between them alone
        worst("k1;g5,9;h0,9;g5,9;g9,9;", 501, 2);
        worst("k8;g0,9;g0,9;g0,9;g0,9;g0,9;g0,9;g0,9;g0,9;", 0, 8);
    }

    @Says(words = ", of several the first (by NOTE, then PLACE): 100")
    static void theFirstWorst() {
        worst("k0;g3,9;g2,9;g2,9;", 201, 1);
        worst("k0;h0,9;g7,9;g7,9;", 701, 1);
        worst("k8;g7,9;g4,9;g7,9;g4,9;", 400, 2);
        worst("k0;h0,9;h0,9;", 0, 0);
        worst("k0;t1,9;", 0, 1);
        worst("k0;t11,9;", 0, 1);
        worst("k0;c0,9;", 500, 1);
    }

    private static void worst(String text, int which, int howMany) {
        JarNotes x = Due.cellarOf(text);
        Due.is(text + ": which", x.worst(0), which);
        Due.is(text + ": how many", x.worst(1), howMany);
    }

    @Says(words = "WHEN a JAR is MOULDY: behind how many YEARS (0: it is; 60 at most) first;")
    static void whenItIsMouldy() {
        JarNotes x = Due.cellarOf("k0;g0,60;g1,1;");
        Due.is("60", x.when(0), 60);
        Due.is("1", x.when(1), 1);
        x.years(1);
        Due.is("59", x.when(0), 59);
        Due.is("it is", x.when(1), 0);
        x.years(1);
        Due.is("it is yet", x.when(1), 0);
        x.seal(1, 0, 60);
        Due.is("sealed anew", x.when(1), 60);
    }

    @Says(words = "NONE (also BROKEN, OPENED).")
    static void neverMouldy() {
        JarNotes x = Due.cellarOf("k0;g0,5;g1,5;");
        x.sneeze(0, 0);
        x.open(1);
        Due.is("broken", x.when(0), Due.NONE);
        Due.is("opened", x.when(1), Due.NONE);
        x.years(24);
        Due.is("broken yet", x.when(0), Due.NONE);
        Due.is("opened yet", x.when(1), Due.NONE);
        Due.is("none is mouldy", x.stand(2), 0);
    }

    @Says(words = "KEPT behind n YEARS (0 to 60): which are WHOLE (bits).")
    static void keptBehindYears() {
        JarNotes x = Due.cellarOf("k0;g0,1;g1,2;g2,59;g3,60;g4,60;g5,60;");
        x.open(4);
        x.sneeze(5, 5);
        int[][] due = {{0, 15}, {1, 14}, {2, 12}, {58, 12}, {59, 8}, {60, 0}};
        for (int[] d : due) {
            Due.is("kept(" + d[0] + ")", x.kept(d[0]), d[1]);
        }
        x.years(1);
        Due.is("kept(0) a year later", x.kept(0), 14);
        Due.is("kept(58) a year later", x.kept(58), 8);
        Due.is("kept(59) a year later", x.kept(59), 0);
        Due.read(x, "k0;g0,9;g0,9;g0,9;g0,9;g0,9;g0,9;g0,9;g0,9;");
        Due.is("eight", x.kept(8), 255);
        Due.is("eight, a year on", x.kept(9), 0);
        Due.read(x, "k0;g0,9;");
        Due.is("one in their place", x.kept(8), 1);
    }

    @Says(words = "ALIKE: pairs of WHOLE JARS (REACH or less apart)")
    static void pairsInReach() {
        String text = ";g0,9;h1,9;h1,9;g0,9;";
        alike("k0" + text, 0, Due.NONE);
        alike("k2" + text, 0, Due.NONE);
        alike("k3" + text, 1, 3);
        alike("k8" + text, 1, 3);
        JarNotes x = Due.cellarOf("k1" + text);
        x.change(1, 3);
        Due.is("by their places", x.alike(1), 3);
        x.open(0);
        Due.is("not if one is opened", x.alike(0), 0);
        x.undo();
        x.sneeze(0, 1);
        Due.is("not if they are broken", x.alike(0), 0);
        JarNotes y = Due.cellarOf("k8;g0,1;g0,9;");
        y.years(1);
        Due.is("not if one is mouldy", y.alike(0), 0);
    }

    @Says(words = "of which each would BREAK by a SNEEZE of the NOTE of the other one at its PLACE, in the first ROUND, "
        + "the two alone:")
    static void eachByTheOther() {
        alike("k8;g4,9;g4,9;", 1, 1);
        alike("k8;g4,9;g5,9;", 0, Due.NONE);
        alike("k8;g4,9;t5,9;", 0, Due.NONE);
        alike("k8;t5,9;g4,9;", 0, Due.NONE);
        alike("k8;g4,9;t4,9;", 1, 1);
        alike("k8;t0,9;t11,9;", 1, 1);
        alike("k8;t0,9;t10,9;", 0, Due.NONE);
        alike("k8;g4,9;h4,9;", 0, Due.NONE);
        alike("k8;h4,9;g4,9;", 0, Due.NONE);
        alike("k8;h4,9;h4,9;g4,9;g4,9;", 1, 23);
        alike("k8;s0,9;s7,9;", 1, 1);
        alike("k8;s0,9;s6,9;", 0, Due.NONE);
        alike("k8;c0,9;c6,9;", 1, 1);
        alike("k8;s0,9;c5,9;", 1, 1);
        alike("k8;s0,9;c6,9;", 0, Due.NONE);
        alike("k8;c6,9;s0,9;", 0, Due.NONE);
        // 0 and 1 would go by each other in the second round, by the thin ones, were they not alone
        alike("k8;g0,9;g1,9;t0,9;t1,9;", 3, 2);
    }

    @Says(words = "the two alone: how many; the first (10 the lesser, and the other one); NONE.")
    static void howManyPairs() {
        alike("k8;g0,9;", 0, Due.NONE);
        alike("k8;g0,9;g0,9;g0,9;", 3, 1);
        alike("k8;g0,9;g0,9;g0,9;g0,9;g0,9;g0,9;g0,9;g0,9;", 28, 1);
        alike("k8;h0,9;h0,9;h0,9;h0,9;h0,9;h0,9;g0,9;g0,9;", 1, 67);
        alike("k8;g1,9;g2,9;g2,9;g1,9;", 2, 3);
        alike("k8;g1,9;g2,9;g1,9;g2,9;", 2, 2);
    }

    private static void alike(String text, int howMany, int first) {
        JarNotes x = Due.cellarOf(text);
        Due.is(text + ": how many", x.alike(0), howMany);
        Due.is(text + ": the first", x.alike(1), first);
    }

    // ---- Promise 18

    @Says(promise = 18, words = "CHAIN: which (what = 0), ROUNDS (1).")
    static void chain() {
        JarNotes x = Due.cellarOf("k1;g0,9;g0,9;g0,9;");
        Due.is("which", x.chain(0, 0, 0), 7);
        Due.is("rounds", x.chain(0, 0, 1), 2);
        Due.is("the last note", x.chain(11, 2, 0), 0);
        Due.is("its rounds", x.chain(11, 2, 1), 0);
    }

    @Says(promise = 18, words = "BAD.")
    static void noSuchChain() {
        JarNotes x = Due.cellarOf("k8;t0,9;t0,9;");
        for (int v : new int[] {-1, 12, Due.MIN, Due.MAX}) {
            Due.is("note " + v, x.chain(v, 0, 0), Due.BAD);
        }
        for (int v : new int[] {-1, 2, 8, Due.MIN, Due.MAX}) {
            Due.is("place " + v, x.chain(0, v, 0), Due.BAD);
            Due.is("what " + v, x.chain(0, 0, v), Due.BAD);
        }
        Due.is("no cellar", new JarNotes().chain(0, 0, 0), Due.BAD);
    }

    // ---- Promise 19

    @Says(promise = 19, words = "WORST: which (what = 0), how many (1).")
    static void worst() {
        worst("k8;g3,9;g11,9;g11,9;", 1100, 2);
        JarNotes x = Due.cellarOf("k8;g3,9;g11,9;g11,9;");
        x.sneeze(11, 0);
        Due.is("which is left", x.worst(0), 300);
        x.open(0);
        Due.is("none is left", x.worst(0), 0);
        Due.is("none breaks", x.worst(1), 0);
    }

    @Says(promise = 19, words = "BAD;")
    static void noSuchWorst() {
        JarNotes x = Due.cellarOf("k8;t0,9;");
        for (int what : NO_HALF) {
            Due.is("worst(" + what + ")", x.worst(what), Due.BAD);
        }
    }

    @Says(promise = 19, words = "STATE: no CELLAR (ahead of BAD).")
    static void worstOfNoCellar() {
        JarNotes x = new JarNotes();
        for (int what : new int[] {0, 1, -1, 2, Due.MIN, Due.MAX}) {
            Due.is("worst(" + what + ")", x.worst(what), Due.STATE);
        }
    }

    // ---- Promise 20

    @Says(promise = 20, words = "WHEN; NONE.")
    static void when() {
        JarNotes x = Due.cellarOf("k0;g0,9;g1,7;");
        Due.is("when", x.when(0), 9);
        x.open(1);
        Due.is("none", x.when(1), Due.NONE);
    }

    @Says(promise = 20, words = "BAD.")
    static void noSuchJarForWhen() {
        JarNotes x = Due.cellarOf("k0;g0,9;g1,7;");
        for (int jar : new int[] {-1, 2, 8, Due.MIN, Due.MAX}) {
            Due.is("when(" + jar + ")", x.when(jar), Due.BAD);
        }
        Due.is("no cellar", new JarNotes().when(0), Due.BAD);
    }

    // ---- Promise 21

    @Says(promise = 21, words = "KEPT. BAD;")
    static void noSuchKept() {
        JarNotes x = Due.cellarOf("k0;g0,60;");
        Due.is("the least", x.kept(0), 1);
        Due.is("the most", x.kept(60), 0);
        for (int n : new int[] {-1, 61, Due.MIN, Due.MAX}) {
            Due.is("kept(" + n + ")", x.kept(n), Due.BAD);
        }
    }

    @Says(promise = 21, words = "STATE: no CELLAR (ahead of BAD).")
    static void keptOfNoCellar() {
        JarNotes x = new JarNotes();
        for (int n : new int[] {0, 60, -1, 61, Due.MIN, Due.MAX}) {
            Due.is("kept(" + n + ")", x.kept(n), Due.STATE);
        }
    }

    // ---- Promise 26

    @Says(promise = 26, words = "ALIKE: how many (what = 0), the first (1; NONE).")
    static void alike() {
        JarNotes x = Due.cellarOf("k8;g0,9;g0,9;");
        Due.is("how many", x.alike(0), 1);
        Due.is("the first", x.alike(1), 1);
        x.open(0);
        Due.is("how many", x.alike(0), 0);
        Due.is("none", x.alike(1), Due.NONE);
    }

    @Says(promise = 26, words = "BAD;")
    static void noSuchAlike() {
        JarNotes x = Due.cellarOf("k8;t0,9;");
        for (int what : NO_HALF) {
            Due.is("alike(" + what + ")", x.alike(what), Due.BAD);
        }
    }

    @Says(promise = 26, words = "STATE: no CELLAR (ahead of BAD).")
    static void alikeOfNoCellar() {
        JarNotes x = new JarNotes();
        for (int what : new int[] {0, 1, -1, 2, Due.MIN, Due.MAX}) {
            Due.is("alike(" + what + ")", x.alike(what), Due.STATE);
        }
    }

    // ---- Promise 32

    @Says(promise = 32, words = "An IMAGE (0, 1) is kept of the CELLAR: 1.")
    static void imagesAreKept() {
        JarNotes x = Due.cellarOf("k0;g0,9;g1,9;");
        Due.is("image(0)", x.image(0), 1);
        x.open(0);
        Due.is("image(1)", x.image(1), 1);
        Due.is("it is no act", x.count(6), 1);
        x.open(1);
        Due.is("restore(0)", x.restore(0), 1);
        Due.is("none was opened", x.stand(3), 0);
        Due.is("restore(1)", x.restore(1), 1);
        Due.is("one was opened", x.stand(3), 1);
        Due.is("image(0) anew", x.image(0), 1);
        x.seal(0, 0, 1);
        x.restore(0);
        Due.is("in place of the one before", x.stand(3), 1);
    }

    @Says(promise = 32, words = "BAD;")
    static void noSuchImage() {
        JarNotes x = new JarNotes();
        for (int k : NO_HALF) {
            Due.is("image(" + k + ") of no cellar", x.image(k), Due.BAD);
        }
        Due.read(x, "k0;g0,9;");
        for (int k : NO_HALF) {
            Due.is("image(" + k + ")", x.image(k), Due.BAD);
        }
    }

    @Says(promise = 32, words = "STATE: no CELLAR.")
    static void imageOfNoCellar() {
        JarNotes x = new JarNotes();
        Due.is("image(0)", x.image(0), Due.STATE);
        Due.is("image(1)", x.image(1), Due.STATE);
        Due.is("none was kept", x.restore(0), Due.STATE);
    }

    // ---- Promise 33

    @Says(promise = 33, words = "The CELLAR is as an IMAGE kept it")
    @Says(promise = 33, words = ": 1. BAD")
    static void restored() {
        JarNotes x = Due.cellarOf("k3;g4,7;t5,1;s6,9;c7,9;");
        x.years(1);
        x.open(2);
        x.sneeze(1, 3);
        x.change(0, 3);
        x.reach(5);
        x.image(1);
        Due.read(x, "k0;h0,1;");
        Due.is("restore(1)", x.restore(1), 1);
        int[][] due = {{4, 6, 3, 0, 1}, {5, 0, 1, 2, 2}, {6, 8, 2, 3, 4}, {7, 8, 0, 1, 5}};
        for (int j = 0; j < due.length; j++) {
            for (int what = 0; what <= 3; what++) {
                Due.is("jar " + j + ", " + what, x.jar(j, what), due[j][what]);
            }
            Due.is("kind " + j, x.kind(j), due[j][4]);
        }
        int[] counts = {0, 4, 1, 5, 1, 1, 0, 0};
        for (int what = 0; what <= 7; what++) {
            Due.is("count(" + what + ")", x.count(what), counts[what]);
        }
        x.seal(1, 0, 1);
        Due.is("once more", x.restore(1), 1);
        Due.is("it is as it was kept", x.jar(1, 3), 2);
    }

    @Says(promise = 33, words = "(no ACT can be undone then)")
    static void restoredActsAreForgotten() {
        JarNotes x = Due.cellarOf("k0;g0,9;");
        x.years(2);
        x.image(0);
        x.open(0);
        x.restore(0);
        Due.is("acts", x.count(6), 0);
        Due.is("undo", x.undo(), Due.STATE);
        Due.is("year", x.count(2), 2);
        x.open(0);
        Due.is("an act of its own", x.undo(), 0);
        Due.is("no more", x.undo(), Due.STATE);
    }

    @Says(promise = 33, words = "BAD;")
    static void noSuchImageToRestore() {
        JarNotes x = new JarNotes();
        for (int k : NO_HALF) {
            Due.is("restore(" + k + ") of no cellar", x.restore(k), Due.BAD);
        }
        Due.read(x, "k0;g0,9;");
        x.image(0);
        x.image(1);
        x.open(0);
        for (int k : NO_HALF) {
            Due.is("restore(" + k + ")", x.restore(k), Due.BAD);
        }
        Due.is("it stands", x.stand(3), 1);
        Due.is("and its act", x.count(6), 1);
    }

    @Says(promise = 33, words = "STATE: none was kept.")
    static void noImageToRestore() {
        JarNotes x = Due.cellarOf("k0;g0,9;");
        x.open(0);
        Due.is("restore(0)", x.restore(0), Due.STATE);
        Due.is("restore(1)", x.restore(1), Due.STATE);
        x.image(1);
        Due.is("the other was kept", x.restore(0), Due.STATE);
        Due.is("the acts stand", x.count(6), 1);
        Due.is("restore(1)", x.restore(1), 1);
    }
}
