/** Sentences of TEXTS: part 1 of the Terms, promises 6 to 8. */
final class TextEdges {
    private static final String EIGHT = "k0;g0,1;t0,1;h0,1;s0,1;c0,1;g0,1;g0,1;g0,1;";

    private TextEdges() {
    }

    private static void faulty(String text, int place, int number) {
        JarNotes x = new JarNotes();
        Due.is("'" + text + "'", Due.read(x, text), -1000100 - place);
        Due.is("fault of '" + text + "'", x.fault(), number);
        Due.is("no cellar by '" + text + "'", x.stand(0), Due.STATE);
    }

    private static JarNotes good(String text, int jars) {
        JarNotes x = new JarNotes();
        Due.is("'" + text + "'", Due.read(x, text), jars);
        Due.is("no fault of '" + text + "'", x.fault(), 0);
        return x;
    }

    // ---- Terms

    @Says(words = "TEXTS: THE TAPE has at most 90 bytes, that come one by one;")
    static void theTapeHasNinetyBytes() {
        JarNotes x = new JarNotes();
        for (int n = 1; n <= 90; n++) {
            Due.is("byte " + n, x.feed('k'), n);
        }
        Due.is("byte 91", x.feed('k'), Due.FULL);
        Due.is("90 are kept", x.count(7), 90);
    }

    @Says(words = "TOKENS: letters a to z (each by itself),")
    static void lettersAreByThemselves() {
        faulty("kk0;g0,1;", 1, 1);
        faulty("k0;gg0,1;", 4, 1);
        faulty("k0;gt0,1;", 4, 1);
        faulty("a0;g0,1;", 0, 1);
        faulty("z0;g0,1;", 0, 1);
        faulty("k0;a0,1;", 3, 1);
        faulty("k0;z0,1;", 3, 1);
        faulty("K0;g0,1;", 0, 1);
        faulty("k0;G0,1;", 3, 1);
    }

    @Says(words = "NUMBERS (figures, 2 at most),")
    static void numbersHaveTwoFigures() {
        JarNotes x = good("k8;g9,9;", 1);
        Due.is("one figure: note", x.jar(0, 0), 9);
        Due.is("one figure: years", x.jar(0, 1), 9);
        x = good("k08;g09,09;t11,60;", 2);
        Due.is("two figures: reach", x.count(3), 8);
        Due.is("two figures: note", x.jar(0, 0), 9);
        Due.is("two figures: years", x.jar(0, 1), 9);
        Due.is("ten and more: note", x.jar(1, 0), 11);
        Due.is("ten and more: years", x.jar(1, 1), 60);
        good("k00;g00,01;", 1);
        faulty("k000;g0,1;", 1, 1);
        faulty("k0;g000,1;", 4, 1);
        faulty("k0;g0,001;", 6, 1);
    }

    @Says(words = "SIGNS , and ; nothing else.")
    static void nothingElseIsAToken() {
        String others = " \t\n\r.:-+/<=`{AZ\u0000\u007f\u0080\u00a0\u00ff";
        for (int i = 0; i < others.length(); i++) {
            char c = others.charAt(i);
            faulty(c + "k0;g0,1;", 0, 1);
            faulty("k" + c + "0;g0,1;", 1, 1);
            faulty("k0" + c + ";g0,1;", 2, 1);
            faulty("k0;g0" + c + "1;", 5, 1);
            faulty("k0;g0,1" + c, 7, 1);
            faulty("k0;g0,1;" + c, 8, 1);
        }
    }

    @Says(words = "cellar: law jar { jar }.")
    static void aLawAndAJarAtLeast() {
        good("k0;g0,1;", 1);
        good("k0;g0,1;g0,1;", 2);
        faulty("", 0, 1);
        faulty("g0,1;", 0, 1);
        faulty("k0;", 3, 1);
        faulty("k0;k0;g0,1;", 3, 1);
        faulty("k0;g0,1;k0;", 8, 1);
        faulty("k0;g0,1;;", 8, 1);
        faulty("k0;g0,1;0", 8, 1);
    }

    @Says(words = "law: k REACH ; (0 to 8).")
    static void reachesOfALaw() {
        for (int reach = 0; reach <= 8; reach++) {
            JarNotes x = good("k" + reach + ";g0,1;", 1);
            Due.is("reach", x.count(3), reach);
        }
        faulty("k9;g0,1;", 1, 2);
        faulty("k09;g0,1;", 1, 2);
        faulty("k10;g0,1;", 1, 2);
        faulty("k99;g0,1;", 1, 2);
        faulty("k;g0,1;", 1, 1);
        faulty("k0,g0,1;", 2, 1);
        faulty("k0g0,1;", 2, 1);
    }

    @Says(words = "jar: SORT NOTE , YEARS ;")
    static void theOrderOfAJar() {
        faulty("k0;0,1;", 3, 1);
        faulty("k0;g,1;", 4, 1);
        faulty("k0;gt,1;", 4, 1);
        faulty("k0;g0;1;", 5, 1);
        faulty("k0;g0 1;", 5, 1);
        faulty("k0;g0,;", 6, 1);
        faulty("k0;g0,,1;", 6, 1);
        faulty("k0;g0,g;", 6, 1);
        faulty("k0;g0,1,", 7, 1);
        faulty("k0;g0,1g0,1;", 7, 1);
    }

    @Says(words = "(SORT: g glass, t a thin one, h a thick one, s stone, c a crock;")
    static void theSorts() {
        String sorts = "gthsc";
        for (char c = 'a'; c <= 'z'; c++) {
            String text = "k0;" + c + "0,1;";
            if (sorts.indexOf(c) < 0) {
                faulty(text, 3, 1);
            } else {
                Due.is("the kind of " + c, good(text, 1).kind(0), sorts.indexOf(c) + 1);
            }
        }
    }

    @Says(words = "; 0 to 11;")
    static void theNotesOfAJar() {
        for (int note = 0; note <= 11; note++) {
            Due.is("its note", good("k0;g" + note + ",1;", 1).jar(0, 0), note);
        }
        faulty("k0;g12,1;", 4, 2);
        faulty("k0;g20,1;", 4, 2);
        faulty("k0;g99,1;", 4, 2);
    }

    @Says(words = " 1 to 60;")
    static void theYearsOfAJar() {
        for (int years : new int[] {1, 2, 9, 10, 59, 60}) {
            Due.is("its years", good("k0;g0," + years + ";", 1).jar(0, 1), years);
        }
        faulty("k0;g0,0;", 6, 2);
        faulty("k0;g0,00;", 6, 2);
        faulty("k0;g0,61;", 6, 2);
        faulty("k0;g0,99;", 6, 2);
    }

    @Says(words = "JARS 0 .. 7, 8 at most,")
    static void eightJarsAtMost() {
        JarNotes x = good(EIGHT, 8);
        Due.is("jar 7", x.jar(7, 1), 1);
        Due.is("no jar 8", x.jar(8, 1), Due.BAD);
        faulty(EIGHT + "g0,1;", 43, 3);
        good("k08;g11,60;g11,60;g11,60;g11,60;g11,60;g11,60;g11,60;g11,60;", 8);
    }

    @Says(words = "in PLACES of their numbers at first).")
    static void placesAtFirst() {
        JarNotes x = good(EIGHT, 8);
        for (int jar = 0; jar <= 7; jar++) {
            Due.is("place of " + jar, x.jar(jar, 2), jar);
        }
        x.change(0, 7);
        Due.is("read again", Due.read(x, EIGHT), 8);
        Due.is("place of 0", x.jar(0, 2), 0);
        Due.is("place of 7", x.jar(7, 2), 7);
    }

    @Says(words = "A CELLAR that is read stands in place of the one before (none at first):")
    static void aCellarInPlaceOfAnother() {
        JarNotes x = new JarNotes();
        Due.is("none at first", x.count(1), 0);
        Due.is("three", Due.read(x, "k1;g1,2;t3,4;h5,6;"), 3);
        Due.is("one in their place", Due.read(x, "k2;c7,8;"), 1);
        Due.is("one jar", x.count(1), 1);
        Due.is("reach", x.count(3), 2);
        Due.is("its kind", x.kind(0), 5);
        Due.is("its note", x.jar(0, 0), 7);
        Due.is("its years", x.jar(0, 1), 8);
        Due.is("no jar 1", x.jar(1, 0), Due.BAD);
        Due.is("no place 1", x.chain(0, 1, 0), Due.BAD);
        Due.is("which is whole", x.stand(0) * 10 + x.kept(0), 11);
        Due.is("which goes", x.chain(0, 0, 0), 1);
        Due.is("no pair", x.alike(0), 0);
        Due.is("whom a thief spares", x.spared(0), 0);
        Due.is("two in its place", Due.read(x, "k0;g0,1;s2,3;"), 2);
        Due.is("the kind of 1", x.kind(1), 4);
    }

    @Says(words = ": YEAR 0, all JARS are WHOLE;")
    static void aCellarBeginsAnew() {
        JarNotes x = Due.cellarOf("k0;g0,1;g1,9;g2,9;g3,9;");
        x.years(1);
        x.open(1);
        x.sneeze(2, 2);
        Due.is("one alone is whole", x.stand(0), 8);
        Due.read(x, "k0;g0,1;g1,9;g2,9;g3,9;");
        Due.is("year", x.count(2), 0);
        Due.is("whole", x.stand(0), 15);
        Due.is("broken", x.stand(1), 0);
        Due.is("mouldy", x.stand(2), 0);
        Due.is("opened", x.stand(3), 0);
    }

    @Says(words = "; no ACT can be undone.")
    static void aCellarForgetsTheActs() {
        JarNotes x = Due.cellarOf("k0;g0,9;");
        x.years(24);
        Due.read(x, "k0;g1,9;");
        Due.is("no act", x.count(6), 0);
        Due.is("undo", x.undo(), Due.STATE);
        Due.is("it stands", x.jar(0, 0), 1);
        x.open(0);
        Due.is("the new one's own act", x.undo(), 0);
        Due.is("no more", x.undo(), Due.STATE);
    }

    @Says(words = "FAULTS, the first TOKEN that has one (its first byte),")
    static void theFirstTokenThatHasAFault() {
        faulty("k9;g12,61;", 1, 2);
        faulty("k0;g12,61;", 4, 2);
        faulty("k0;g0,61;x", 6, 2);
        faulty("k0;g12;", 4, 2);
        faulty("k0;g0;99;", 5, 1);
        faulty("k0;g11,61", 7, 2);
        faulty("k99 ", 1, 2);
        faulty("k99", 1, 2);
    }

    @Says(words = "of one TOKEN the least:")
    static void ofOneTokenTheLeast() {
        faulty("k0;99,1;", 3, 1);
        faulty("k999;g0,1;", 1, 1);
        faulty(EIGHT + "99", 43, 1);
        faulty(EIGHT + "k", 43, 1);
        faulty(EIGHT + ",", 43, 1);
        faulty(EIGHT + " ", 43, 1);
    }

    @Says(words = "1 it cannot stand there, or is none")
    static void faultOne() {
        faulty("k,;g0,1;", 1, 1);
        faulty("k0;s0,1;t", 9, 1);
        faulty("k0;s0,1;?", 8, 1);
    }

    @Says(words = "(a run of three figures, at its first;")
    static void aRunOfThreeFigures() {
        faulty("k001;g0,1;", 1, 1);
        faulty("k0;g011,1;", 4, 1);
        faulty("k0;g0,060;", 6, 1);
        faulty("k0;g0,0060;", 6, 1);
        faulty("k0000000000000;g0,1;", 1, 1);
        faulty("000", 0, 1);
        faulty("k0;g0,111", 6, 1);
        faulty("k0;g0,99999999999999999999", 6, 1);
    }

    @Says(words = "the end: how many bytes there are);")
    static void theEnd() {
        faulty("", 0, 1);
        faulty("k", 1, 1);
        faulty("k0", 2, 1);
        faulty("k00", 3, 1);
        faulty("k0;", 3, 1);
        faulty("k0;g", 4, 1);
        faulty("k0;g0", 5, 1);
        faulty("k0;g0,", 6, 1);
        faulty("k0;g0,1", 7, 1);
        faulty("k0;g0,1;g", 9, 1);
        faulty("k08;g11,60;g11,60;g11,60;g11,60;g11,60;g11,60;g11,60;g11,60", 59, 1);
    }

    @Says(words = "the end: how many bytes there are);")
    static void theEndBehindALongerText() {
        String text = "k00;g00,11;t00,11;";
        for (int n = 0; n < text.length(); n++) {
            JarNotes x = new JarNotes();
            Due.is("all of it", Due.read(x, text), 2);
            Due.is("its first " + n, Due.read(x, text.substring(0, n)), n == 11 ? 1 : -1000100 - n);
        }
    }

    @Says(words = "2 a NUMBER that is not as told;")
    static void faultTwo() {
        faulty("k9;", 1, 2);
        faulty("k0;g12", 4, 2);
        faulty("k0;g0,0", 6, 2);
        faulty("k0;g0,61", 6, 2);
        faulty("k0;g0,1;t1,60;c12,1;", 15, 2);
    }

    @Says(words = "3 a jar more than there is room for (its letter).")
    static void faultThree() {
        faulty(EIGHT + "g", 43, 3);
        faulty(EIGHT + "c0,1;", 43, 3);
        faulty(EIGHT + "t99", 43, 3);
        faulty(EIGHT + "s s", 43, 3);
        faulty(EIGHT + "h0,1;h0,1;", 43, 3);
        faulty("k08;g11,60;g11,60;g11,60;g11,60;g11,60;g11,60;g11,60;g11,60;g11,60;", 60, 3);
    }

    // ---- Promise 6

    @Says(promise = 6, words = "A byte (0 to 255) comes behind the tape: how many it has.")
    static void bytesAreFed() {
        JarNotes x = new JarNotes();
        Due.is("0", x.feed(0), 1);
        Due.is("255", x.feed(255), 2);
        Due.is("two on the tape", x.count(7), 2);
        JarNotes y = new JarNotes();
        Due.is("k", y.feed('k'), 1);
        Due.is("0", y.feed('0'), 2);
        Due.is("it came behind", y.cellar(), -1000102);
    }

    @Says(promise = 6, words = "BAD;")
    static void noSuchByte() {
        JarNotes x = new JarNotes();
        for (int letter : new int[] {-1, 256, 256 + 'k', -128, Due.MIN, Due.MAX}) {
            Due.is("feed(" + letter + ")", x.feed(letter), Due.BAD);
        }
        Due.is("none came", x.count(7), 0);
    }

    @Says(promise = 6, words = "FULL.")
    static void aFullTape() {
        JarNotes x = new JarNotes();
        Due.feed(x, EIGHT);
        Due.feed(x, "g0,1;g0,1;g0,1;g0,1;g0,1;g0,1;g0,1;g0,1;g0,1;g");
        Due.is("89", x.count(7), 89);
        Due.is("the 90th", x.feed('0'), 90);
        Due.is("the 91st", x.feed('0'), Due.FULL);
        Due.is("BAD is ahead of it", x.feed(256), Due.BAD);
        Due.is("and below", x.feed(-1), Due.BAD);
        Due.is("it is as it was", x.cellar(), -1000143);
        Due.is("read, it has room", x.feed('k'), 1);
    }

    // ---- Promise 7

    @Says(promise = 7, words = "The tape, empty then, is read:")
    static void theTapeIsEmptyThen() {
        JarNotes x = new JarNotes();
        Due.is("read", Due.read(x, "k0;g0,1;"), 1);
        Due.is("empty", x.count(7), 0);
        Due.is("fed again", x.feed('k'), 1);
        Due.is("a fault", x.cellar(), -1000101);
        Due.is("empty behind a fault, too", x.count(7), 0);
        Due.is("an empty one", x.cellar(), -1000100);
        Due.is("the first cellar stands", x.count(1), 1);
    }

    @Says(promise = 7, words = "is read: how many JARS there are.")
    static void howManyJarsThereAre() {
        StringBuilder text = new StringBuilder("k0;");
        for (int n = 1; n <= 8; n++) {
            text.append("g0,1;");
            Due.is("jars", good(text.toString(), n).count(1), n);
        }
    }

    @Says(promise = 7, words = "-1000100 less the place of a FAULT:")
    static void placesOfFaults() {
        faulty("", 0, 1);
        faulty("k0;g0,1;t1,1;x", 13, 1);
        faulty("k08;g11,60;g11,60;g11,60;g11,60;g11,60;g11,60;g11,60;g11,60;c", 60, 3);
        JarNotes x = new JarNotes();
        Due.is("the first byte", Due.read(x, "x"), -1000100);
        Due.is("the second", Due.read(x, "kx"), -1000101);
    }

    @Says(promise = 7, words = "all stays.")
    static void aFaultLeavesAll() {
        JarNotes x = Due.cellarOf("k3;g4,7;t5,1;s6,9;");
        x.years(1);
        x.open(2);
        x.change(0, 2);
        x.image(0);
        x.ask(0, 0);
        x.drop(5);
        Due.is("a fault at the end", Due.read(x, "k8;c1,2;c1,2;c1,2;c1,2;c1,2"), -1000127);
        int[][] jars = {{4, 6, 2, 0, 1}, {5, 0, 1, 2, 2}, {6, 8, 0, 3, 4}};
        for (int j = 0; j < 3; j++) {
            for (int what = 0; what < 4; what++) {
                Due.is("jar " + j + ", " + what, x.jar(j, what), jars[j][what]);
            }
            Due.is("kind " + j, x.kind(j), jars[j][4]);
        }
        int[] counts = {0, 3, 1, 3, 1, 0, 3, 0};
        for (int what = 0; what < counts.length; what++) {
            Due.is("count(" + what + ")", x.count(what), counts[what]);
        }
        Due.is("the trace", x.trace(0), 11);
        Due.is("status", x.status(), 1);
        Due.is("undo", x.undo(), 2);
        Due.is("the image", x.restore(0), 1);
    }

    // ---- Promise 8

    @Says(promise = 8, words = "The number of the latest FAULT;")
    static void theLatestFault() {
        JarNotes x = new JarNotes();
        Due.read(x, "k9;");
        Due.is("2", x.fault(), 2);
        Due.read(x, EIGHT + "g");
        Due.is("3", x.fault(), 3);
        Due.read(x, EIGHT);
        Due.is("3 yet behind a good one", x.fault(), 3);
        x.cellar();
        Due.is("1", x.fault(), 1);
        Due.is("told again", x.fault(), 1);
    }

    @Says(promise = 8, words = "0 before one.")
    static void noFaultYet() {
        JarNotes x = new JarNotes();
        Due.is("a new object", x.fault(), 0);
        Due.read(x, EIGHT);
        Due.is("behind a good text", x.fault(), 0);
        x.feed(256);
        x.jar(9, 9);
        Due.is("behind refusals", x.fault(), 0);
    }
}
