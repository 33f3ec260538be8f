/** Sentences of SONG, of what fits, of MOULD and VINTAGES: part 3 of the Terms, promises 27 to 31. */
final class GuessEdges {
    private static final int[] NO_HALF = {-1, 2, Due.MIN, Due.MAX};
    private static final int[] NO_ROW = {-1, 8, Due.MIN, Due.MAX};
    private static final int[] NO_LENGTH = {0, -1, 13, Due.MIN, Due.MAX};
    // From where, and how many, of a row of three items.
    private static final int[][] BEYOND = {{-1, 1}, {3, 1}, {0, 4}, {2, 2}, {-1, 4}, {40, 1}, {Due.MAX, 1}, {Due.MAX, 12},
        {Due.MIN, 1}, {Due.MIN, 12}};
    private static final String EIGHT_OF_3 = "k0;g3,9;g3,9;g3,9;g3,9;g3,9;g3,9;g3,9;g3,9;";

    private GuessEdges() {
    }

    private static void song(JarNotes x, int which, int lack, int... notes) {
        Due.fill(x, 0, 0, notes);
        Due.is("which", x.song(0, 0, 0, notes.length), which);
        Due.is("how many lack", x.song(1, 0, 0, notes.length), lack);
    }

    private static void who(JarNotes x, int kinds, int notes, int... told) {
        Due.fill(x, 0, 2, told);
        Due.is("kinds of 0", x.who(0, 0, 0, 0, 0, told.length), kinds);
        Due.is("notes of 0", x.who(0, 1, 0, 0, 0, told.length), notes);
    }

    private static void reaches(JarNotes x, int place, int bits, int... told) {
        Due.fill(x, 0, 2, told);
        Due.is("reaches at " + place, x.reaches(place, 0, 0, told.length), bits);
    }

    private static void mould(JarNotes x, int jar, int p, long above, long below) {
        Due.is("above, " + jar + " by " + p, x.mould(jar, 0, 0, p, 0), above);
        Due.is("below, " + jar + " by " + p, x.mould(jar, 0, 0, p, 1), below);
    }

    private static void drawn(JarNotes x, int n, int seed, int which, int howMany) {
        Due.is(n + " years by " + seed + ": which", x.drawn(n, seed, 0), which);
        Due.is(n + " years by " + seed + ": how many", x.drawn(n, seed, 1), howMany);
    }

    // ---- Terms: SONG

    @Says(words = "A row tells n NOTES (1 to 12; each 0 to 11): SONG: can it be heard, each by another WHOLE JAR that is OPENED:")
    static void aSong() {
        JarNotes x = Due.cellarOf("k0;g0,9;g11,9;g5,1;g6,9;g7,9;");
        song(x, 1, 0, 0);
        song(x, 2, 0, 11);
        song(x, 3, 0, 11, 0);
        song(x, 31, 7, 0, 1, 2, 3, 4, 5, 6, 7, 8, 9, 10, 11);
        x.years(1);
        x.open(3);
        x.sneeze(7, 4);
        song(x, 3, 3, 5, 6, 7, 0, 11);
        Due.is("none is opened by it", x.stand(3), 8);
    }

    @Says(words = "of several JARS of a NOTE the least first: which (bits);")
    static void theLeastJarFirst() {
        JarNotes x = Due.cellarOf("k0;g1,9;g5,9;g1,9;g5,9;g5,9;");
        song(x, 2, 0, 5);
        song(x, 10, 0, 5, 5);
        song(x, 11, 0, 5, 1, 5);
        song(x, 26, 0, 5, 5, 5);
        song(x, 31, 0, 5, 5, 5, 1, 1);
        x.change(1, 4);
        song(x, 2, 0, 5);
        x.open(1);
        song(x, 8, 0, 5);
    }

    @Says(words = "how many NOTES lack a JAR (for these none is OPENED).")
    static void notesThatLackAJar() {
        JarNotes x = Due.cellarOf("k0;g1,9;g5,9;");
        song(x, 0, 1, 0);
        song(x, 2, 1, 5, 5);
        song(x, 2, 11, 5, 5, 5, 5, 5, 5, 5, 5, 5, 5, 5, 5);
        song(x, 3, 2, 0, 1, 2, 5);
        song(x, 0, 12, 0, 0, 0, 0, 0, 0, 0, 0, 0, 0, 0, 0);
    }

    // ---- Terms: what fits

    @Says(words = "A row tells how many would BREAK by a SNEEZE at a PLACE of NOTE 0, 1, .. n less 1 (n 1 to 12),")
    static void whatTheRowTells() {
        JarNotes x = Due.cellarOf("k0;g5,9;");
        who(x, 2, 32, 0, 0, 0, 0, 0, 1, 0, 0, 0, 0, 0, 0);
        who(x, 14, 4094, 0);
        who(x, 48, 1, 1);
        who(x, 0, 0, 0, 0, 0, 0, 0, 2);
        who(x, 0, 0, -1);
        who(x, 0, 0, 257);
        JarNotes y = Due.cellarOf("k1;g5,9;h1,9;g5,9;");
        // a thick one, stone and a crock of note 1 hear nothing of 0 to 5 that sets them off; the others do
        Due.fill(y, 0, 0, 0, 0, 0, 0, 0, 2);
        Due.is("at place 1 two go", y.who(1, 0, 1, 0, 0, 6), 56);
        Due.is("at place 0 two never do", y.who(1, 0, 0, 0, 0, 6), 0);
        y.set(0, 5, 1);
        Due.is("at place 0 one goes", y.who(1, 0, 0, 0, 0, 6), 56);
    }

    @Says(words = "each by itself, now.")
    static void eachByItself() {
        JarNotes x = Due.cellarOf("k0;t5,9;");
        // were the first to break it, the next two would find it broken
        who(x, 4, 32, 0, 0, 0, 0, 1, 1, 1, 0, 0, 0, 0, 0);
        x.open(0);
        who(x, 0, 0, 0, 0, 0, 0, 1, 1, 1);
        who(x, 62, 4095, 0, 0, 0, 0, 0, 0, 0, 0, 0, 0, 0, 0);
        x.seal(0, 3, 1);
        who(x, 4, 8, 0, 0, 1, 1, 1, 0, 0, 0, 0, 0, 0, 0);
        x.years(1);
        who(x, 62, 4095, 0, 0, 0);
    }

    @Says(words = "KINDS (bits 1 to 5), NOTES (0 to 11, bits) of a JAR by which it is so.")
    static void kindsAndNotes() {
        who(Due.cellarOf("k0;c5,9;"), 2, 0, 0, 0, 0, 0, 0, 1, 0, 0, 0, 0, 0, 0);
        who(Due.cellarOf("k0;c5,9;"), 4, 2048, 0, 0, 0, 0, 1, 1, 1, 0, 0, 0, 0, 0);
        who(Due.cellarOf("k0;c5,9;"), 8, 0, 0, 0, 0, 0, 0, 0, 0, 0, 0, 0, 0, 0);
        who(Due.cellarOf("k0;c5,9;"), 16, 0, 1, 0, 0, 0, 0, 0, 0, 0, 0, 0, 1, 0);
        who(Due.cellarOf("k0;c5,9;"), 32, 32, 1, 0, 0, 0, 0, 0, 0, 0, 0, 0, 1, 1);
        who(Due.cellarOf("k0;h5,9;"), 2 + 4 + 8, 4095, 0);
        who(Due.cellarOf("k0;t0,9;"), 4, 1, 1, 1, 0, 0, 0, 0, 0, 0, 0, 0, 0, 1);
        who(Due.cellarOf("k0;g0,9;"), 2 + 4, 1, 1);
        who(Due.cellarOf("k0;g11,9;"), 2, 2048, 0, 0, 0, 0, 0, 0, 0, 0, 0, 0, 0, 1);
    }

    @Says(words = "REACHES (0 to 8, bits).")
    static void reachesThatFit() {
        JarNotes x = Due.cellarOf("k1;g0,9;h5,9;h5,9;h5,9;h5,9;h5,9;h5,9;g0,9;");
        reaches(x, 0, 127, 1);
        reaches(x, 0, 384, 2);
        reaches(x, 0, 0, 3);
        reaches(x, 0, 0, 0);
        reaches(x, 3, 7, 0);
        reaches(x, 3, 8, 1, 0);
        reaches(x, 3, 496, 2);
        reaches(Due.cellarOf("k8;g0,9;g0,9;"), 0, 1, 1);
        reaches(Due.cellarOf("k8;h0,9;h0,9;"), 1, 511, 0);
        Due.is("reach stays", x.count(3), 1);
    }

    // ---- Terms: MOULD

    @Says(words = "MOULD by p of 10 (0 to 10): each WHOLE JAR is MOULDY now in p of 10 cases, apart: "
        + "how likely a JAR BREAKS by a SNEEZE: a fraction")
    static void howLikely() {
        JarNotes one = Due.cellarOf("k0;g0,9;");
        long[][] due = {{1, 1}, {9, 10}, {4, 5}, {7, 10}, {3, 5}, {1, 2}, {2, 5}, {3, 10}, {1, 5}, {1, 10}, {0, 1}};
        for (int p = 0; p <= 10; p++) {
            mould(one, 0, p, due[p][0], due[p][1]);
        }
        JarNotes chain = Due.cellarOf("k1;g0,9;g0,9;g0,9;g0,9;g0,9;g0,9;g0,9;g0,9;");
        mould(chain, 7, 1, 4782969, 10000000);
        mould(chain, 7, 9, 1, 10000000);
        mould(chain, 7, 0, 1, 1);
        mould(chain, 7, 10, 0, 1);
        mould(chain, 1, 3, 7, 10);
        // whole, and two at least of the three
        JarNotes thick = Due.cellarOf("k8;h0,9;g0,9;g0,9;g0,9;");
        mould(thick, 0, 5, 1, 4);
        mould(thick, 0, 1, 2187, 2500);
    }

    @Says(words = "(0, if it is not WHOLE).")
    static void notLikelyAtAll() {
        JarNotes x = Due.cellarOf("k8;g0,9;g0,1;g0,9;g5,9;");
        x.years(1);
        x.open(2);
        x.sneeze(5, 3);
        for (int p = 0; p <= 10; p += 5) {
            mould(x, 1, p, 0, 1);
            mould(x, 2, p, 0, 1);
            mould(x, 3, p, 0, 1);
        }
        mould(x, 0, 5, 1, 2);
    }

    // ---- Terms: VINTAGES

    @Says(words = "VINTAGES of n YEARS (0 to 60) by a SEED (X at first):")
    static void vintagesOfYears() {
        JarNotes x = Due.cellarOf("k0;h0,60;h0,1;");
        drawn(x, 0, 1, 3, 0);
        drawn(x, 1, 1, 1, 0);
        drawn(x, 59, 1, 1, 0);
        drawn(x, 60, 1, 0, 0);
        x.years(24);
        drawn(x, 35, 999999, 1, 0);
        drawn(x, 36, 999999, 0, 0);
        Due.is("nothing has changed", x.count(2), 24);
    }

    @Says(words = "ahead of each X becomes the rest of (X times 16807) by 2147483647;")
    static void theDrawsWrapAround() {
        // 127774 times 16807 is 2147497618: the rest is 13971, of NOTE 3, at PLACE 3 of 8
        JarNotes x = Due.cellarOf(EIGHT_OF_3);
        drawn(x, 1, 127774, 247, 1);
        // 127773 times 16807 is 2147480811, below it yet: NOTE 3, PLACE 3 of 8
        drawn(x, 1, 127773, 247, 1);
        // 1774597664, 1410049312, 1216742139 (NOTE 3, PLACE 3), 1445843439 (NOTE 3, PLACE 7)
        drawn(x, 2, 999999, 255, 0);
        drawn(x, 3, 999999, 247, 1);
        drawn(x, 4, 999999, 119, 2);
    }

    @Says(words = "if X by 3 leaves 0, there is a SNEEZE of the NOTE that is the rest of X by 12,")
    static void sneezesThatAreDrawn() {
        // 16807 leaves 1 by 3 and would be of NOTE 7; 33614 leaves 2, of NOTE 2; 50421 leaves 0, of NOTE 9
        drawn(Due.cellarOf("k0;g7,9;"), 1, 1, 1, 0);
        drawn(Due.cellarOf("k0;g2,9;"), 1, 2, 1, 0);
        drawn(Due.cellarOf("k0;g9,9;"), 1, 3, 0, 1);
        drawn(Due.cellarOf("k0;g8,9;"), 1, 3, 1, 0);
        // 847425747: NOTE 3
        drawn(Due.cellarOf("k0;g3,9;"), 1, 3, 1, 0);
        drawn(Due.cellarOf("k0;g3,9;"), 2, 3, 0, 1);
    }

    @Says(words = "at the PLACE that is the rest of X by how many there are;")
    static void placesThatAreDrawn() {
        // 50421: PLACE 0 of 1, 1 of 2, 0 of 3, 1 of 4, 1 of 5, 3 of 6, 0 of 7, 5 of 8
        int[] places = {0, 1, 0, 1, 1, 3, 0, 5};
        StringBuilder text = new StringBuilder("k0;");
        for (int jars = 1; jars <= 8; jars++) {
            text.append("g9,9;");
            drawn(Due.cellarOf(text.toString()), 1, 3, (1 << jars) - 1 - (1 << places[jars - 1]), 1);
        }
        JarNotes x = Due.cellarOf("k0;g9,9;g9,9;");
        x.change(0, 1);
        drawn(x, 1, 3, 2, 1);
        x.undo();
        x.open(0);
        Due.is("places count, though their jars are not whole", x.drawn(1, 3, 1), 1);
    }

    @Says(words = "then the YEAR: which are WHOLE then (bits); how many are BROKEN then.")
    static void theYearComesThen() {
        // of 50421 NOTE 9, PLACE 1 of 2: broken ahead of the year in which both would be mouldy
        drawn(Due.cellarOf("k0;g9,1;g9,1;"), 1, 3, 0, 1);
        // of 847425747 NOTE 3, PLACE 1 of 2: mouldy by then
        drawn(Due.cellarOf("k0;g3,1;g3,1;"), 2, 3, 0, 0);
        JarNotes x = Due.cellarOf("k0;g9,9;g9,9;");
        x.sneeze(9, 0);
        drawn(x, 0, 3, 2, 1);
        drawn(x, 1, 3, 0, 2);
    }

    // ---- Promise 27

    @Says(promise = 27, words = "SONG: which (what = 0), how many lack (1), n ITEMS of a ROW from i on.")
    static void itemsOfASong() {
        JarNotes x = Due.cellarOf("k0;g1,9;g2,9;g3,9;");
        Due.fill(x, 7, 1, 9, 1, 2, 3, 9);
        Due.is("from 1 on", x.song(0, 7, 1, 3), 7);
        Due.is("none lacks", x.song(1, 7, 1, 3), 0);
        Due.is("from 0 on", x.song(0, 7, 0, 2), 1);
        Due.is("one lacks", x.song(1, 7, 0, 2), 1);
        Due.is("the last", x.song(1, 7, 4, 1), 1);
        x.row(0, 2, 40);
        Due.is("the last twelve of 40", x.song(1, 0, 28, 12), 12);
    }

    @Says(promise = 27, words = "BAD: what, ROW, n;")
    static void noSuchSong() {
        JarNotes x = Due.cellarOf("k0;g1,9;");
        x.row(0, 0, 40);
        for (int what : NO_HALF) {
            Due.is("what " + what, x.song(what, 0, 0, 1), Due.BAD);
        }
        for (int row : NO_ROW) {
            Due.is("row " + row, x.song(0, row, 0, 1), Due.BAD);
        }
        for (int n : NO_LENGTH) {
            Due.is("n " + n, x.song(0, 0, 0, n), Due.BAD);
            Due.is("n " + n + " of a missing row", x.song(0, 1, 0, n), Due.BAD);
            Due.is("n " + n + " beyond", x.song(0, 0, -1, n), Due.BAD);
        }
    }

    @Says(promise = 27, words = "STATE: no CELLAR (ahead of BAD);")
    static void songOfNoCellar() {
        JarNotes x = new JarNotes();
        x.row(0, 0, 3);
        Due.is("all as told", x.song(0, 0, 0, 1), Due.STATE);
        Due.is("ahead of BAD: what", x.song(2, 0, 0, 1), Due.STATE);
        Due.is("ahead of BAD: row", x.song(0, 8, 0, 1), Due.STATE);
        Due.is("ahead of BAD: n", x.song(0, 0, 0, 13), Due.STATE);
        Due.is("ahead of NULL", x.song(0, 1, 0, 1), Due.STATE);
        Due.is("ahead of PLACE", x.song(0, 0, 3, 1), Due.STATE);
        Due.is("status stays", x.status(), 0);
    }

    @Says(promise = 27, words = "NULL;")
    static void songOfAMissingRow() {
        JarNotes x = Due.cellarOf("k0;g1,9;");
        Due.is("missing", x.song(0, 0, 0, 1), Due.NULL);
        Due.is("ahead of PLACE", x.song(0, 0, -1, 1), Due.NULL);
    }

    @Says(promise = 27, words = "PLACE;")
    static void songBeyondARow() {
        JarNotes x = Due.cellarOf("k0;g1,9;");
        Due.fill(x, 0, 0, 1, 12, 1);
        for (int[] b : BEYOND) {
            Due.is(b[1] + " from " + b[0] + " on", x.song(0, 0, b[0], b[1]), Due.PLACE);
        }
        Due.is("ahead of KIND", x.song(0, 0, 1, 3), Due.PLACE);
        Due.is("the last", x.song(0, 0, 2, 1), 1);
        x.row(1, 0, 0);
        Due.is("an empty row", x.song(0, 1, 0, 1), Due.PLACE);
    }

    @Says(promise = 27, words = "KIND: an ITEM is no NOTE.")
    static void songOfNoNotes() {
        JarNotes x = Due.cellarOf("k0;g0,9;g11,9;");
        for (int item : new int[] {-1, 12, Due.MIN, Due.MAX}) {
            Due.fill(x, 0, 2, item, 0, 11);
            Due.is(item + " first", x.song(0, 0, 0, 3), Due.KIND);
            Due.is("not told", x.song(0, 0, 1, 2), 3);
            Due.fill(x, 0, 2, 0, 11, item);
            Due.is(item + " last", x.song(1, 0, 0, 3), Due.KIND);
            Due.is("status", x.status(), 3);
            Due.is("not told", x.song(0, 0, 0, 2), 3);
        }
    }

    // ---- Promise 28

    @Says(promise = 28, words = "KINDS (which = 0), NOTES (1) of a JAR, by SNEEZES at a PLACE, n ITEMS of a ROW from i on.")
    static void itemsOfWho() {
        JarNotes x = Due.cellarOf("k0;h0,9;g0,9;");
        Due.fill(x, 7, 1, 5, 1, 0, 5);
        Due.is("kinds, from 1 on", x.who(1, 0, 1, 7, 1, 2), 2);
        Due.is("notes, from 1 on", x.who(1, 1, 1, 7, 1, 2), 1);
        Due.is("kinds of the other one, at its place", x.who(0, 0, 0, 7, 1, 2), 2);
        Due.is("at a place where it does not hear", x.who(0, 0, 1, 7, 1, 2), 62);
        x.row(0, 0, 40);
        Due.is("the last twelve of 40", x.who(0, 0, 0, 0, 28, 12), 8);
    }

    @Says(promise = 28, words = "BAD: JAR, which, PLACE, ROW, n;")
    static void noSuchWho() {
        JarNotes x = Due.cellarOf("k0;g0,9;g0,9;");
        x.row(0, 0, 40);
        for (int jar : new int[] {-1, 2, 8, Due.MIN, Due.MAX}) {
            Due.is("jar " + jar, x.who(jar, 0, 0, 0, 0, 1), Due.BAD);
            Due.is("place " + jar, x.who(0, 0, jar, 0, 0, 1), Due.BAD);
        }
        for (int which : NO_HALF) {
            Due.is("which " + which, x.who(0, which, 0, 0, 0, 1), Due.BAD);
        }
        for (int row : NO_ROW) {
            Due.is("row " + row, x.who(0, 0, 0, row, 0, 1), Due.BAD);
        }
        for (int n : NO_LENGTH) {
            Due.is("n " + n, x.who(0, 0, 0, 0, 0, n), Due.BAD);
            Due.is("n " + n + " of a missing row", x.who(0, 0, 0, 1, 0, n), Due.BAD);
            Due.is("n " + n + " beyond", x.who(0, 0, 0, 0, -1, n), Due.BAD);
        }
        Due.is("no cellar", new JarNotes().who(0, 0, 0, 0, 0, 1), Due.BAD);
    }

    @Says(promise = 28, words = "NULL;")
    static void whoOfAMissingRow() {
        JarNotes x = Due.cellarOf("k0;g1,9;");
        Due.is("kinds", x.who(0, 0, 0, 0, 0, 1), Due.NULL);
        Due.is("notes", x.who(0, 1, 0, 0, 0, 1), Due.NULL);
        Due.is("ahead of PLACE", x.who(0, 0, 0, 0, -1, 1), Due.NULL);
    }

    @Says(promise = 28, words = "PLACE.")
    static void whoBeyondARow() {
        JarNotes x = Due.cellarOf("k0;g0,9;");
        Due.fill(x, 0, 0, 0, 0, 1);
        for (int[] b : BEYOND) {
            Due.is("kinds: " + b[1] + " from " + b[0] + " on", x.who(0, 0, 0, 0, b[0], b[1]), Due.PLACE);
            Due.is("notes: " + b[1] + " from " + b[0] + " on", x.who(0, 1, 0, 0, b[0], b[1]), Due.PLACE);
        }
        Due.is("the last", x.who(0, 1, 0, 0, 2, 1), 1);
    }

    // ---- Promise 29

    @Says(promise = 29, words = "REACHES, likewise.")
    static void itemsOfReaches() {
        JarNotes x = Due.cellarOf("k0;h0,9;g0,9;");
        Due.fill(x, 7, 1, 5, 0, 5, 1);
        Due.is("one item", x.reaches(0, 7, 1, 1), 1);
        Due.is("the last item", x.reaches(0, 7, 3, 1), 510);
        Due.is("nothing fits", x.reaches(0, 7, 0, 1), 0);
        x.row(0, 0, 40);
        x.open(1);
        Due.is("the last twelve of 40", x.reaches(1, 0, 28, 12), 511);
    }

    @Says(promise = 29, words = "BAD: PLACE, ROW, n;")
    static void noSuchReaches() {
        JarNotes x = Due.cellarOf("k0;g0,9;g0,9;");
        x.row(0, 0, 40);
        for (int place : new int[] {-1, 2, 8, Due.MIN, Due.MAX}) {
            Due.is("place " + place, x.reaches(place, 0, 0, 1), Due.BAD);
        }
        for (int row : NO_ROW) {
            Due.is("row " + row, x.reaches(0, row, 0, 1), Due.BAD);
        }
        for (int n : NO_LENGTH) {
            Due.is("n " + n, x.reaches(0, 0, 0, n), Due.BAD);
            Due.is("n " + n + " of a missing row", x.reaches(0, 1, 0, n), Due.BAD);
            Due.is("n " + n + " beyond", x.reaches(0, 0, -1, n), Due.BAD);
        }
        Due.is("no cellar", new JarNotes().reaches(0, 0, 0, 1), Due.BAD);
    }

    @Says(promise = 29, words = "NULL;")
    static void reachesOfAMissingRow() {
        JarNotes x = Due.cellarOf("k0;g1,9;");
        Due.is("missing", x.reaches(0, 0, 0, 1), Due.NULL);
        Due.is("ahead of PLACE", x.reaches(0, 0, -1, 1), Due.NULL);
    }

    @Says(promise = 29, words = "PLACE.")
    static void reachesBeyondARow() {
        JarNotes x = Due.cellarOf("k0;g0,9;");
        Due.fill(x, 0, 0, 0, 0, 1);
        for (int[] b : BEYOND) {
            Due.is(b[1] + " from " + b[0] + " on", x.reaches(0, 0, b[0], b[1]), Due.PLACE);
        }
        Due.is("the last", x.reaches(0, 0, 2, 1), 511);
    }

    // ---- Promise 30

    @Says(promise = 30, words = "MOULD: above (what = 0), below (1).")
    static void aboveAndBelow() {
        JarNotes x = Due.cellarOf("k0;h0,9;g11,9;");
        Due.is("above", x.mould(1, 11, 1, 4, 0), 3);
        Due.is("below", x.mould(1, 11, 1, 4, 1), 5);
        Due.is("of another note: above", x.mould(1, 10, 1, 4, 0), 0);
        Due.is("of another note: below", x.mould(1, 10, 1, 4, 1), 1);
        Due.is("at another place: above", x.mould(1, 11, 0, 4, 0), 0);
        Due.is("at another place: below", x.mould(1, 11, 0, 4, 1), 1);
    }

    @Says(promise = 30, words = "BAD.")
    static void noSuchMould() {
        JarNotes x = Due.cellarOf("k8;t0,9;t0,9;");
        for (int v : new int[] {-1, 2, 8, Due.MIN, Due.MAX}) {
            Due.is("jar " + v, x.mould(v, 0, 0, 0, 0), Due.BAD);
            Due.is("place " + v, x.mould(0, 0, v, 0, 0), Due.BAD);
            Due.is("what " + v, x.mould(0, 0, 0, 0, v), Due.BAD);
        }
        for (int v : new int[] {-1, 12, Due.MIN, Due.MAX}) {
            Due.is("note " + v, x.mould(0, v, 0, 0, 0), Due.BAD);
        }
        for (int v : new int[] {-1, 11, Due.MIN, Due.MAX}) {
            Due.is("p " + v, x.mould(0, 0, 0, v, 1), Due.BAD);
        }
        Due.is("no cellar", new JarNotes().mould(0, 0, 0, 0, 0), Due.BAD);
        Due.is("no cellar, below", new JarNotes().mould(0, 0, 0, 0, 1), Due.BAD);
    }

    // ---- Promise 31

    @Says(promise = 31, words = "VINTAGES by a SEED (1 to 999999): which (what = 0), how many (1).")
    static void seeds() {
        JarNotes x = Due.cellarOf(EIGHT_OF_3);
        drawn(x, 0, 1, 255, 0);
        drawn(x, 0, 999999, 255, 0);
        drawn(x, 3, 999999, 247, 1);
        // 1097816499: NOTE 3, PLACE 3 of 8
        drawn(x, 3, 2, 247, 1);
    }

    @Says(promise = 31, words = "BAD;")
    static void noSuchVintages() {
        JarNotes x = Due.cellarOf("k8;t0,9;");
        for (int n : new int[] {-1, 61, Due.MIN, Due.MAX}) {
            Due.is("n " + n, x.drawn(n, 1, 0), Due.BAD);
        }
        for (int seed : new int[] {0, -1, 1000000, Due.MIN, Due.MAX}) {
            Due.is("seed " + seed, x.drawn(0, seed, 0), Due.BAD);
            Due.is("seed " + seed + ", 60 years", x.drawn(60, seed, 1), Due.BAD);
        }
        for (int what : NO_HALF) {
            Due.is("what " + what, x.drawn(0, 1, what), Due.BAD);
        }
    }

    @Says(promise = 31, words = "STATE: no CELLAR (ahead of BAD).")
    static void vintagesOfNoCellar() {
        JarNotes x = new JarNotes();
        Due.is("all as told", x.drawn(0, 1, 0), Due.STATE);
        Due.is("ahead of BAD: n", x.drawn(61, 1, 0), Due.STATE);
        Due.is("ahead of BAD: seed", x.drawn(0, 0, 0), Due.STATE);
        Due.is("ahead of BAD: what", x.drawn(0, 1, 2), Due.STATE);
    }
}
