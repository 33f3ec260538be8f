/** Sentences of YEARS and ACTS: part 2 of the Terms, promises 9 to 17. */
final class ActEdges {
    private ActEdges() {
    }

    private static JarNotes inTheYear(int year) {
        JarNotes x = Due.cellarOf("k0;g0,60;");
        for (int n = 0; n < year / 24; n++) {
            x.years(24);
        }
        if (year % 24 > 0) {
            x.years(year % 24);
        }
        return x;
    }

    // ---- Terms

    @Says(words = "A YEAR: each WHOLE JAR keeps 1 YEAR less;")
    static void wholeJarsKeepLess() {
        JarNotes x = Due.cellarOf("k0;g0,60;g1,9;g2,9;g3,1;");
        x.open(1);
        x.sneeze(2, 2);
        x.years(1);
        Due.is("whole", x.jar(0, 1), 59);
        Due.is("opened", x.jar(1, 1), 9);
        Due.is("broken", x.jar(2, 1), 9);
        Due.is("mouldy", x.jar(3, 1), 0);
        x.years(2);
        Due.is("whole", x.jar(0, 1), 57);
        Due.is("opened", x.jar(1, 1), 9);
        Due.is("broken", x.jar(2, 1), 9);
        Due.is("a mouldy one keeps no less than none", x.jar(3, 1), 0);
    }

    @Says(words = "with none left it is MOULDY.")
    static void withNoneLeftItIsMouldy() {
        JarNotes x = Due.cellarOf("k0;g0,1;g1,2;");
        x.years(1);
        Due.is("none left", x.jar(0, 3), 2);
        Due.is("one left", x.jar(1, 3), 0);
        x.years(1);
        Due.is("none left", x.jar(1, 3), 2);
        Due.is("mouldy ones", x.stand(2), 3);
        JarNotes y = Due.cellarOf("k0;g0,60;");
        y.years(24);
        y.years(24);
        Due.is("59 years", y.years(11), 1);
        Due.is("60 years", y.years(1), 0);
    }

    @Says(words = "YEAR is 1 more.")
    static void yearIsOneMore() {
        JarNotes x = Due.cellarOf("k0;g0,1;");
        x.years(1);
        Due.is("1", x.count(2), 1);
        x.years(1);
        Due.is("2, though none is whole", x.count(2), 2);
        x.undo();
        Due.is("undone", x.count(2), 1);
    }

    @Says(words = "ACTS (24 at most are kept, of more the oldest is forgotten;")
    static void actsAreForgotten() {
        JarNotes x = Due.cellarOf("k0;g0,60;");
        x.reach(5);
        for (int n = 2; n <= 24; n++) {
            x.years(1);
            Due.is("acts", x.count(6), n);
        }
        JarNotes full = Due.cellarOf("k0;g0,60;");
        full.reach(5);
        full.years(23);
        for (int left = 23; left >= 0; left--) {
            Due.is("undo", full.undo(), left);
        }
        Due.is("24: the oldest is undone", full.count(3), 0);
        x.years(1);
        Due.is("24 yet", x.count(6), 24);
        for (int left = 23; left >= 0; left--) {
            Due.is("undo", x.undo(), left);
        }
        Due.is("25: the oldest is not", x.count(3), 5);
        Due.is("the years are", x.count(2), 0);
        Due.is("no more", x.undo(), Due.STATE);
    }

    @Says(words = "of more the oldest is forgotten;")
    static void manyMoreActs() {
        JarNotes x = Due.cellarOf("k0;g0,60;");
        x.years(20);
        x.years(24);
        Due.is("24 of 44", x.count(6), 24);
        for (int n = 0; n < 10; n++) {
            x.undo();
        }
        x.years(12);
        Due.is("14 and 12 more", x.count(6), 24);
        for (int left = 23; left >= 0; left--) {
            Due.is("undo", x.undo(), left);
        }
        Due.is("22 of 46 years stay", x.count(2), 22);
        Due.is("its years", x.jar(0, 1), 38);
        Due.is("no more", x.undo(), Due.STATE);
    }

    @Says(words = "each can be undone, the latest first):")
    static void theLatestFirst() {
        JarNotes x = Due.cellarOf("k0;g0,9;g1,9;");
        x.reach(1);
        x.reach(2);
        x.reach(3);
        x.undo();
        Due.is("2", x.count(3), 2);
        x.undo();
        Due.is("1", x.count(3), 1);
        x.reach(7);
        x.undo();
        Due.is("1 again", x.count(3), 1);
        x.undo();
        Due.is("0", x.count(3), 0);
    }

    @Says(words = "): a YEAR;")
    static void aYearIsAnAct() {
        JarNotes x = Due.cellarOf("k0;g0,1;g1,9;");
        x.years(1);
        Due.is("an act", x.count(6), 1);
        Due.is("undone", x.undo(), 0);
        Due.is("whole", x.stand(0), 3);
        Due.is("years of 0", x.jar(0, 1), 1);
        Due.is("years of 1", x.jar(1, 1), 9);
        Due.is("year", x.count(2), 0);
    }

    @Says(words = "a SNEEZE; a WHOLE")
    static void aSneezeIsAnAct() {
        JarNotes x = Due.cellarOf("k0;g0,9;g1,9;");
        x.open(1);
        x.sneeze(0, 0);
        Due.is("acts", x.count(6), 2);
        x.sneeze(0, 0);
        Due.is("by which none breaks, too", x.count(6), 3);
        x.undo();
        Due.is("broken yet", x.stand(1), 1);
        x.undo();
        Due.is("whole again", x.stand(0), 1);
        Due.is("opened yet", x.stand(3), 2);
    }

    @Says(words = "a WHOLE JAR is OPENED;")
    static void openingIsAnAct() {
        JarNotes x = Due.cellarOf("k0;g0,9;");
        x.open(0);
        Due.is("an act", x.count(6), 1);
        Due.is("undone", x.undo(), 0);
        Due.is("whole", x.jar(0, 3), 0);
        Due.is("it can be opened again", x.open(0), 0);
    }

    @Says(words = "two JARS change their PLACES;")
    static void changingIsAnAct() {
        JarNotes x = Due.cellarOf("k0;g0,9;g1,9;g2,9;");
        x.change(0, 2);
        x.change(0, 1);
        Due.is("acts", x.count(6), 2);
        x.undo();
        Due.is("place of 0", x.jar(0, 2), 2);
        Due.is("place of 1", x.jar(1, 2), 1);
        x.undo();
        Due.is("place of 0", x.jar(0, 2), 0);
        Due.is("place of 2", x.jar(2, 2), 2);
    }

    @Says(words = "one that is not WHOLE is sealed anew (WHOLE, of a NOTE, with so many YEARS);")
    static void sealingIsAnAct() {
        JarNotes x = Due.cellarOf("k0;t3,9;");
        x.years(2);
        x.open(0);
        x.seal(0, 11, 60);
        Due.is("whole", x.jar(0, 3), 0);
        Due.is("of a note", x.jar(0, 0), 11);
        Due.is("with so many years", x.jar(0, 1), 60);
        Due.is("of its kind", x.kind(0), 2);
        Due.is("an act", x.count(6), 4);
        x.undo();
        Due.is("opened", x.jar(0, 3), 3);
        Due.is("of its note", x.jar(0, 0), 3);
        Due.is("with its years", x.jar(0, 1), 7);
    }

    @Says(words = "REACH is another.")
    static void reachIsAnAct() {
        JarNotes x = Due.cellarOf("k3;g0,9;");
        x.reach(8);
        Due.is("an act", x.count(6), 1);
        x.undo();
        Due.is("undone", x.count(3), 3);
    }

    // ---- Promise 9

    @Says(promise = 9, words = "The latest ACT is undone: how many can be undone yet.")
    static void undone() {
        JarNotes x = Due.cellarOf("k0;g0,9;g1,9;");
        x.years(3);
        Due.is("two yet", x.undo(), 2);
        Due.is("one yet", x.undo(), 1);
        Due.is("none yet", x.undo(), 0);
        Due.is("year", x.count(2), 0);
        x.open(0);
        x.open(1);
        Due.is("one yet", x.undo(), 1);
        Due.is("the first is opened", x.stand(3), 1);
    }

    @Says(promise = 9, words = "STATE: none.")
    static void noneToUndo() {
        JarNotes x = new JarNotes();
        Due.is("no cellar", x.undo(), Due.STATE);
        Due.read(x, "k0;g0,9;");
        Due.is("no act", x.undo(), Due.STATE);
        x.open(1);
        Due.is("a refused one is none", x.undo(), Due.STATE);
        x.chain(0, 0, 0);
        Due.is("nor is what is foretold", x.undo(), Due.STATE);
        x.open(0);
        x.undo();
        Due.is("all undone", x.undo(), Due.STATE);
        Due.is("it is whole", x.stand(0), 1);
    }

    // ---- Promise 10

    @Says(promise = 10, words = "n YEARS (1 to 24), an ACT each: which are WHOLE then (bits).")
    static void oneToTwentyFourYears() {
        JarNotes x = Due.cellarOf("k0;g0,1;g1,2;g2,24;g3,25;g4,60;");
        Due.is("1 year", x.years(1), 30);
        Due.is("an act", x.count(6), 1);
        x.undo();
        Due.is("24 years", x.years(24), 24);
        Due.is("24 acts", x.count(6), 24);
        Due.is("year", x.count(2), 24);
        Due.is("one of them undone", x.undo(), 23);
        Due.is("year", x.count(2), 23);
        Due.is("whole then", x.stand(0), 28);
    }

    @Says(promise = 10, words = "BAD;")
    static void noSuchYears() {
        JarNotes x = Due.cellarOf("k0;g0,9;");
        for (int n : new int[] {0, -1, 25, Due.MIN, Due.MAX}) {
            Due.is("years(" + n + ")", x.years(n), Due.BAD);
        }
        Due.is("year", x.count(2), 0);
        Due.is("acts", x.count(6), 0);
    }

    @Says(promise = 10, words = "STATE: no CELLAR (ahead of BAD);")
    static void yearsOfNoCellar() {
        JarNotes x = new JarNotes();
        for (int n : new int[] {1, 24, 0, -1, 25, Due.MIN, Due.MAX}) {
            Due.is("years(" + n + ")", x.years(n), Due.STATE);
        }
    }

    @Says(promise = 10, words = "FULL: YEAR would be above 999.")
    static void yearsBeyondTheLast() {
        JarNotes x = inTheYear(975);
        Due.is("999", x.years(24), 0);
        Due.is("year", x.count(2), 999);
        Due.is("1000", x.years(1), Due.FULL);
        Due.is("BAD is ahead", x.years(0), Due.BAD);
        Due.is("and above", x.years(25), Due.BAD);
        Due.is("year", x.count(2), 999);
        x.undo();
        Due.is("two would be too many", x.years(2), Due.FULL);
        Due.is("none of them came", x.count(2), 998);
        Due.is("one would not", x.years(1), 0);
        JarNotes y = inTheYear(976);
        Due.is("24 would be too many", y.years(24), Due.FULL);
        Due.is("acts stay", y.count(6), 24);
        Due.is("23 would not", y.years(23), 0);
    }

    // ---- Promise 11

    @Says(promise = 11, words = "A SNEEZE: which BREAK (bits).")
    static void whichBreak() {
        JarNotes x = Due.cellarOf("k0;g0,9;h0,9;h0,9;h0,9;h0,9;h0,9;h0,9;g11,9;");
        Due.is("the first note and place", x.sneeze(0, 0), 1);
        Due.is("the last note and place", x.sneeze(11, 7), 128);
        Due.is("none", x.sneeze(0, 0), 0);
        Due.is("both are broken", x.stand(1), 129);
    }

    @Says(promise = 11, words = "BAD: no such NOTE,")
    static void noSuchNoteToSneeze() {
        JarNotes x = Due.cellarOf("k8;t0,9;");
        for (int note : new int[] {-1, 12, Due.MIN, Due.MAX}) {
            Due.is("note " + note, x.sneeze(note, 0), Due.BAD);
        }
        Due.is("no act", x.count(6), 0);
        Due.is("whole", x.stand(0), 1);
    }

    @Says(promise = 11, words = "PLACE.")
    static void noSuchPlaceToSneeze() {
        JarNotes x = Due.cellarOf("k8;t0,9;t0,9;");
        for (int place : new int[] {-1, 2, 7, 8, Due.MIN, Due.MAX}) {
            Due.is("place " + place, x.sneeze(0, place), Due.BAD);
        }
        Due.is("no act", x.count(6), 0);
        Due.is("no cellar, no place", new JarNotes().sneeze(0, 0), Due.BAD);
    }

    // ---- Promise 12

    @Says(promise = 12, words = "OPENED: the NOTE that it gives.")
    static void openedItGivesItsNote() {
        JarNotes x = Due.cellarOf("k0;g0,9;g11,9;");
        Due.is("0", x.open(0), 0);
        Due.is("11", x.open(1), 11);
        Due.is("both are", x.stand(3), 3);
    }

    @Says(promise = 12, words = "BAD;")
    static void noSuchJarToOpen() {
        JarNotes x = Due.cellarOf("k0;g0,9;g11,9;");
        for (int jar : new int[] {-1, 2, 8, Due.MIN, Due.MAX}) {
            Due.is("open(" + jar + ")", x.open(jar), Due.BAD);
        }
        Due.is("no cellar", new JarNotes().open(0), Due.BAD);
    }

    @Says(promise = 12, words = "STATE: it is not WHOLE.")
    static void notWholeToOpen() {
        JarNotes x = Due.cellarOf("k0;g0,9;g1,1;g2,9;");
        x.sneeze(0, 0);
        x.years(1);
        x.open(2);
        for (int jar = 0; jar <= 2; jar++) {
            Due.is("open(" + jar + ")", x.open(jar), Due.STATE);
        }
        Due.is("acts", x.count(6), 3);
        Due.is("as they were", x.jar(0, 3) * 100 + x.jar(1, 3) * 10 + x.jar(2, 3), 123);
    }

    // ---- Promise 13

    @Says(promise = 13, words = "Two change their PLACES: the PLACE of the first one then.")
    static void theyChangePlaces() {
        JarNotes x = Due.cellarOf("k0;g0,9;g1,9;g2,9;g3,9;g4,9;g5,9;g6,9;g7,9;");
        Due.is("change(0, 7)", x.change(0, 7), 7);
        Due.is("place of 7", x.jar(7, 2), 0);
        Due.is("change(7, 3)", x.change(7, 3), 3);
        Due.is("place of 3", x.jar(3, 2), 0);
        Due.is("change(0, 3)", x.change(0, 3), 0);
        Due.is("place of 3", x.jar(3, 2), 7);
        x.open(1);
        Due.is("an opened one, too", x.change(1, 2), 2);
    }

    @Says(promise = 13, words = "BAD:")
    static void noSuchJarToChange() {
        JarNotes x = Due.cellarOf("k0;g0,9;g1,9;");
        for (int jar : new int[] {-1, 2, 8, Due.MIN, Due.MAX}) {
            Due.is("the first", x.change(jar, 0), Due.BAD);
            Due.is("the other", x.change(0, jar), Due.BAD);
        }
        Due.is("no act", x.count(6), 0);
        Due.is("no cellar", new JarNotes().change(0, 1), Due.BAD);
    }

    @Says(promise = 13, words = "alike, too.")
    static void alikeToChange() {
        JarNotes x = Due.cellarOf("k0;g0,9;g1,9;");
        Due.is("change(0, 0)", x.change(0, 0), Due.BAD);
        Due.is("change(1, 1)", x.change(1, 1), Due.BAD);
        Due.is("change(2, 2)", x.change(2, 2), Due.BAD);
        Due.is("no act", x.count(6), 0);
    }

    // ---- Promise 14

    @Says(promise = 14, words = "Sealed anew with a NOTE (0 to 11), YEARS (1 to 60): which are WHOLE then (bits).")
    static void sealedAnew() {
        JarNotes x = Due.cellarOf("k0;g5,9;g6,9;g7,9;");
        x.open(0);
        x.open(1);
        Due.is("the least", x.seal(0, 0, 1), 5);
        Due.is("its note", x.jar(0, 0), 0);
        Due.is("its years", x.jar(0, 1), 1);
        Due.is("the most", x.seal(1, 11, 60), 7);
        Due.is("its note", x.jar(1, 0), 11);
        Due.is("its years", x.jar(1, 1), 60);
    }

    @Says(promise = 14, words = "Sealed anew")
    static void brokenMouldyAndOpenedOnesAreSealed() {
        JarNotes x = Due.cellarOf("k0;g0,9;g1,1;g2,9;");
        x.sneeze(0, 0);
        x.years(1);
        x.open(2);
        Due.is("broken", x.seal(0, 3, 3), 1);
        Due.is("mouldy", x.seal(1, 3, 3), 3);
        Due.is("opened", x.seal(2, 3, 3), 7);
    }

    @Says(promise = 14, words = "BAD;")
    static void notAsToldToSeal() {
        JarNotes x = Due.cellarOf("k0;g0,9;g1,9;");
        x.open(0);
        int[][] bad = {{-1, 0, 1}, {2, 0, 1}, {Due.MIN, 0, 1}, {Due.MAX, 0, 1}, {0, -1, 1}, {0, 12, 1},
            {0, Due.MIN, 1}, {0, Due.MAX, 1}, {0, 0, 0}, {0, 0, 61}, {0, 0, -1}, {0, 0, Due.MIN}, {0, 0, Due.MAX}};
        for (int[] b : bad) {
            Due.is("seal(" + b[0] + ", " + b[1] + ", " + b[2] + ")", x.seal(b[0], b[1], b[2]), Due.BAD);
        }
        Due.is("opened yet", x.jar(0, 3), 3);
        Due.is("one act", x.count(6), 1);
        Due.is("a whole one: BAD is ahead", x.seal(1, 12, 1), Due.BAD);
        Due.is("a whole one: BAD is ahead", x.seal(1, 0, 0), Due.BAD);
        Due.is("no cellar", new JarNotes().seal(0, 0, 1), Due.BAD);
    }

    @Says(promise = 14, words = "STATE: it is WHOLE.")
    static void wholeToSeal() {
        JarNotes x = Due.cellarOf("k0;g5,9;");
        Due.is("whole", x.seal(0, 0, 1), Due.STATE);
        Due.is("its note", x.jar(0, 0), 5);
        Due.is("its years", x.jar(0, 1), 9);
        Due.is("no act", x.count(6), 0);
    }

    // ---- Promise 15

    @Says(promise = 15, words = "REACH (0 to 8): what it was.")
    static void reachIsSet() {
        JarNotes x = Due.cellarOf("k4;g5,9;");
        Due.is("0", x.reach(0), 4);
        Due.is("it is 0", x.count(3), 0);
        Due.is("8", x.reach(8), 0);
        Due.is("it is 8", x.count(3), 8);
        Due.is("8 again", x.reach(8), 8);
    }

    @Says(promise = 15, words = "BAD;")
    static void noSuchReach() {
        JarNotes x = Due.cellarOf("k4;g5,9;");
        for (int v : new int[] {-1, 9, Due.MIN, Due.MAX}) {
            Due.is("reach(" + v + ")", x.reach(v), Due.BAD);
        }
        Due.is("it is 4", x.count(3), 4);
        Due.is("no act", x.count(6), 0);
    }

    @Says(promise = 15, words = "STATE: no CELLAR (ahead of BAD).")
    static void reachOfNoCellar() {
        JarNotes x = new JarNotes();
        for (int v : new int[] {0, 8, -1, 9, Due.MIN, Due.MAX}) {
            Due.is("reach(" + v + ")", x.reach(v), Due.STATE);
        }
        Due.is("it is 0", x.count(3), 0);
    }

    // ---- Promise 16

    @Says(promise = 16, words = "Of a JAR: 0 NOTE, 1 YEARS that it keeps, 2 PLACE, 3 how it is")
    static void whatIsToldOfAJar() {
        JarNotes x = Due.cellarOf("k0;g0,60;g1,2;g2,3;g3,4;g4,5;g5,6;g6,7;g11,1;");
        x.change(0, 7);
        int[][] due = {{0, 60, 7, 0}, {11, 1, 0, 0}};
        for (int what = 0; what <= 3; what++) {
            Due.is("jar 0, " + what, x.jar(0, what), due[0][what]);
            Due.is("jar 7, " + what, x.jar(7, what), due[1][what]);
        }
        x.years(1);
        Due.is("what it keeps is less", x.jar(0, 1), 59);
        Due.is("none", x.jar(7, 1), 0);
    }

    @Says(promise = 16, words = "(0 WHOLE, 1 BROKEN, 2 MOULDY, 3 OPENED).")
    static void howItIs() {
        JarNotes x = Due.cellarOf("k0;g0,9;g1,9;g2,1;g3,9;");
        x.years(1);
        x.sneeze(1, 1);
        x.open(3);
        for (int jar = 0; jar <= 3; jar++) {
            Due.is("jar " + jar, x.jar(jar, 3), jar);
        }
    }

    @Says(promise = 16, words = "BAD.")
    static void nothingToTellOfAJar() {
        JarNotes x = Due.cellarOf("k0;g0,9;g1,9;");
        for (int jar : new int[] {-1, 2, 8, Due.MIN, Due.MAX}) {
            Due.is("jar " + jar, x.jar(jar, 0), Due.BAD);
        }
        for (int what : new int[] {-1, 4, Due.MIN, Due.MAX}) {
            Due.is("what " + what, x.jar(0, what), Due.BAD);
        }
        Due.is("no cellar", new JarNotes().jar(0, 0), Due.BAD);
    }

    // ---- Promise 17

    @Says(promise = 17, words = "JARS (bits) that are so (how: 0 WHOLE, 1 BROKEN, 2 MOULDY, 3 OPENED).")
    static void thoseThatAreSo() {
        JarNotes x = Due.cellarOf("k0;g0,9;g1,9;g2,1;g3,9;g0,9;g1,9;g2,1;g3,9;");
        int[] first = {255, 0, 0, 0};
        int[] then = {17, 34, 68, 136};
        for (int how = 0; how <= 3; how++) {
            Due.is("stand(" + how + ") at first", x.stand(how), first[how]);
        }
        x.years(1);
        x.sneeze(1, 1);
        x.sneeze(1, 5);
        x.open(3);
        x.open(7);
        for (int how = 0; how <= 3; how++) {
            Due.is("stand(" + how + ") then", x.stand(how), then[how]);
        }
    }

    @Says(promise = 17, words = "BAD;")
    static void noSuchHow() {
        JarNotes x = Due.cellarOf("k0;g0,9;");
        for (int how : new int[] {-1, 4, Due.MIN, Due.MAX}) {
            Due.is("stand(" + how + ")", x.stand(how), Due.BAD);
        }
    }

    @Says(promise = 17, words = "STATE: no CELLAR (ahead of BAD).")
    static void thoseOfNoCellar() {
        JarNotes x = new JarNotes();
        for (int how : new int[] {0, 3, -1, 4, Due.MIN, Due.MAX}) {
            Due.is("stand(" + how + ")", x.stand(how), Due.STATE);
        }
    }
}
