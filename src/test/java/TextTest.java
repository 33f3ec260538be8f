/** Promises 6 to 8: the tape, what is read from it, and its faults. */
public final class TextTest {
    public static void main(String[] args) {
        bytesAreFed();
        goodTexts();
        faultyTexts();
        faultsLeaveAll();
        aNewCellarStandsInPlace();
        Due.end("TextTest");
    }

    private static void bytesAreFed() {
        JarNotes x = new JarNotes();
        Due.is("feed(-1)", x.feed(-1), Due.BAD);
        Due.is("feed(256)", x.feed(256), Due.BAD);
        Due.is("feed(0)", x.feed(0), 1);
        Due.is("feed(255)", x.feed(255), 2);
        for (int n = 3; n <= 90; n++) {
            Due.is("feed, the " + n + "th", x.feed('a'), n);
        }
        Due.is("feed, the 91st", x.feed('a'), Due.FULL);
        Due.is("feed, BAD ahead of FULL", x.feed(256), Due.BAD);
        Due.is("count(7)", x.count(7), 90);
        Due.is("cellar", x.cellar(), -1000100);
        Due.is("the tape is empty", x.count(7), 0);
        Due.is("feed", x.feed('k'), 1);
    }

    private static void goodTexts() {
        JarNotes x = new JarNotes();
        Due.is("one jar", Due.read(x, "k0;g0,1;"), 1);
        Due.is("figures, two at most", Due.read(x, "k08;t00,01;h11,60;"), 2);
        Due.is("reach", x.count(3), 8);
        Due.is("jar 0: note", x.jar(0, 0), 0);
        Due.is("jar 0: years", x.jar(0, 1), 1);
        Due.is("jar 1: note", x.jar(1, 0), 11);
        Due.is("jar 1: years", x.jar(1, 1), 60);
        Due.is("jar 1: place", x.jar(1, 2), 1);
        Due.is("eight jars", Due.read(x, "k1;g1,11;t2,12;h3,13;s4,14;c5,15;g6,16;t7,17;h8,18;"), 8);
        int[] kinds = {1, 2, 3, 4, 5, 1, 2, 3};
        for (int j = 0; j < 8; j++) {
            Due.is("kind of " + j, x.kind(j), kinds[j]);
            Due.is("note of " + j, x.jar(j, 0), j + 1);
            Due.is("years of " + j, x.jar(j, 1), j + 11);
            Due.is("place of " + j, x.jar(j, 2), j);
            Due.is("how " + j + " is", x.jar(j, 3), 0);
        }
        Due.is("no fault", x.fault(), 0);
    }

    private static void faultyTexts() {
        faulty("", 0, 1);
        faulty("k", 1, 1);
        faulty("k1", 2, 1);
        faulty("k1;", 3, 1);
        faulty("k1;g", 4, 1);
        faulty("k1;g4", 5, 1);
        faulty("k1;g4,", 6, 1);
        faulty("k1;g4,3", 7, 1);
        faulty("k9;g4,3;", 1, 2);
        faulty("k99", 1, 2);
        faulty("k009;g4,3;", 1, 1);
        faulty("k123;g4,3;", 1, 1);
        faulty("k1234;g4,3;", 1, 1);
        faulty("123k1;g4,3;", 0, 1);
        faulty("1;g4,3;", 0, 1);
        faulty("g4,3;", 0, 1);
        faulty("kk1;g4,3;", 1, 1);
        faulty("k;g4,3;", 1, 1);
        faulty("k,1;g4,3;", 1, 1);
        faulty("k1,g4,3;", 2, 1);
        faulty("k1g4,3;", 2, 1);
        faulty("k 1;g4,3;", 1, 1);
        faulty("k1;G4,3;", 3, 1);
        faulty("k1;k4,3;", 3, 1);
        faulty("k1;4,3;", 3, 1);
        faulty("k1;;g4,3;", 3, 1);
        faulty("k1;gg4,3;", 4, 1);
        faulty("k1;g12,3;", 4, 2);
        faulty("k1;g99,0;", 4, 2);
        faulty("k1;g012,3;", 4, 1);
        faulty("k1;g4;3;", 5, 1);
        faulty("k1;g4,0;", 6, 2);
        faulty("k1;g4,00;", 6, 2);
        faulty("k1;g4,61;", 6, 2);
        faulty("k1;g4,99", 6, 2);
        faulty("k1;g4,100;", 6, 1);
        faulty("k1;g4,3,", 7, 1);
        faulty("k1;g4,3;g", 9, 1);
        faulty("k1;g4,3; ", 8, 1);
        faulty("k1;g4,3;\u00ff", 8, 1);
        faulty("k1;g4,3;{", 8, 1);
        faulty("k1;g4,3;`", 8, 1);
        faulty("k1;g4,3:", 7, 1);
        faulty("k1;g/,3;", 4, 1);
        String eight = "k0;g0,1;t0,1;h0,1;s0,1;c0,1;g0,1;g0,1;g0,1;";
        faulty(eight + "g0,1;", 43, 3);
        faulty(eight + "c", 43, 3);
        faulty(eight + "k", 43, 1);
        faulty(eight + "5", 43, 1);
        faulty(eight + ";", 43, 1);
    }

    private static void faulty(String text, int place, int number) {
        JarNotes x = new JarNotes();
        Due.is("'" + text + "'", Due.read(x, text), -1000100 - place);
        Due.is("fault of '" + text + "'", x.fault(), number);
        Due.is("the tape is empty behind '" + text + "'", x.count(7), 0);
        Due.is("no cellar behind '" + text + "'", x.count(1), 0);
    }

    private static void faultsLeaveAll() {
        JarNotes x = Due.cellarOf("k3;g4,7;t5,2;");
        x.years(1);
        Due.is("a fault behind a good jar", Due.read(x, "k8;c1,1;c2,2;c3,3;c12,3;"), -1000119);
        Due.is("its number", x.fault(), 2);
        Due.is("jars stay", x.count(1), 2);
        Due.is("the year stays", x.count(2), 1);
        Due.is("reach stays", x.count(3), 3);
        Due.is("acts stay", x.count(6), 1);
        Due.is("kinds stay", x.kind(0), 1);
        Due.is("notes stay", x.jar(0, 0), 4);
        Due.is("undo", x.undo(), 0);
        Due.is("years are as they were", x.jar(0, 1), 7);
        Due.is("a good text", Due.read(x, "k0;g0,1;"), 1);
        Due.is("the latest fault is told yet", x.fault(), 2);
    }

    private static void aNewCellarStandsInPlace() {
        JarNotes x = Due.cellarOf("k3;g4,7;t5,2;s1,9;");
        x.change(0, 2);
        x.open(1);
        x.years(3);
        Due.is("another", Due.read(x, "k1;h6,5;c7,4;s8,3;"), 3);
        Due.is("year 0", x.count(2), 0);
        Due.is("reach", x.count(3), 1);
        Due.is("all whole", x.stand(0), 7);
        Due.is("none opened", x.stand(3), 0);
        Due.is("no act", x.count(6), 0);
        Due.is("undo", x.undo(), Due.STATE);
        Due.is("place of 0", x.jar(0, 2), 0);
        Due.is("place of 2", x.jar(2, 2), 2);
        Due.is("kind of 0", x.kind(0), 3);
    }
}
