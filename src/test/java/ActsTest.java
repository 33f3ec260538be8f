/** Promises 9 to 17: what is done to the jars, what is undone, and how they stand. */
public final class ActsTest {
    public static void main(String[] args) {
        yearsPass();
        yearsAreRefused();
        sneezesBreak();
        eachSortIsSetOff();
        thickOnesNeedTwo();
        jarsAreOpened();
        placesAreChanged();
        jarsAreSealedAnew();
        reachIsAnother();
        jarsAreTold();
        actsAreUndone();
        theOldestActIsForgotten();
        refusalsAreNoActs();
        Due.end("ActsTest");
    }

    private static void yearsPass() {
        JarNotes x = Due.cellarOf("k0;g0,1;g0,2;g0,3;g0,24;g0,60;");
        Due.is("years(1)", x.years(1), 30);
        Due.is("it is mouldy", x.jar(0, 3), 2);
        Due.is("it keeps none", x.jar(0, 1), 0);
        Due.is("another keeps one less", x.jar(2, 1), 2);
        Due.is("year 1", x.count(2), 1);
        x.open(1);
        Due.is("years(2)", x.years(2), 24);
        Due.is("what is opened keeps its years", x.jar(1, 1), 1);
        Due.is("what is opened is opened yet", x.jar(1, 3), 3);
        Due.is("what is mouldy keeps none", x.jar(0, 1), 0);
        Due.is("an act each", x.count(6), 4);
        Due.is("years(24)", x.years(24), 16);
        Due.is("year 27", x.count(2), 27);
        Due.is("the last one keeps", x.jar(4, 1), 33);
    }

    private static void yearsAreRefused() {
        JarNotes x = new JarNotes();
        Due.is("no cellar", x.years(1), Due.STATE);
        Due.is("no cellar goes ahead", x.years(0), Due.STATE);
        Due.read(x, "k0;g0,5;");
        Due.is("years(0)", x.years(0), Due.BAD);
        Due.is("years(25)", x.years(25), Due.BAD);
        Due.is("years(-1)", x.years(-1), Due.BAD);
        for (int n = 0; n < 41; n++) {
            x.years(24);
        }
        Due.is("year 984", x.count(2), 984);
        Due.is("1000 would be too many", x.years(16), Due.FULL);
        Due.is("BAD goes ahead of FULL", x.years(25), Due.BAD);
        Due.is("all stays", x.count(2), 984);
        Due.is("999 is not", x.years(15), 0);
        Due.is("year 999", x.count(2), 999);
        Due.is("one more", x.years(1), Due.FULL);
        x.undo();
        Due.is("undone, there is room again", x.years(1), 0);
    }

    private static void sneezesBreak() {
        JarNotes x = Due.cellarOf("k1;g3,9;g3,9;g4,9;g3,9;");
        Due.is("it goes on to the next, no farther", x.sneeze(3, 0), 3);
        Due.is("two are broken", x.stand(1), 3);
        Due.is("they keep their years", x.jar(0, 1), 9);
        Due.is("what is broken does not break again", x.sneeze(3, 1), 0);
        Due.is("an act each", x.count(6), 2);
        Due.is("the one beyond", x.sneeze(3, 2), 8);
        Due.is("note -1", x.sneeze(-1, 0), Due.BAD);
        Due.is("note 12", x.sneeze(12, 0), Due.BAD);
        Due.is("place -1", x.sneeze(0, -1), Due.BAD);
        Due.is("place 4", x.sneeze(0, 4), Due.BAD);
        Due.is("no cellar", new JarNotes().sneeze(0, 0), Due.BAD);

        JarNotes far = Due.cellarOf("k2;g0,9;g1,9;g0,9;g1,9;g0,9;");
        Due.is("reach 2", far.sneeze(0, 1), 21);
        JarNotes mouldy = Due.cellarOf("k1;g0,9;g0,1;g0,9;");
        mouldy.years(1);
        Due.is("a mouldy one does not break, nor sound", mouldy.sneeze(0, 0), 1);
        JarNotes opened = Due.cellarOf("k1;g0,9;g0,9;g0,9;");
        opened.open(1);
        Due.is("an opened one does not break, nor sound", opened.sneeze(0, 2), 4);
    }

    private static void eachSortIsSetOff() {
        // by kind: the ways apart (0 to 6) by which one is set off, as bits
        char[] sorts = {'g', 't', 'h', 's', 'c'};
        int[] ways = {1, 3, 0, 32, 96};
        for (int k = 0; k < 5; k++) {
            for (int note = 0; note < 12; note++) {
                for (int other = 0; other < 12; other++) {
                    int apart = Math.floorMod(note - other, 12);
                    apart = apart > 6 ? 12 - apart : apart;
                    JarNotes x = Due.cellarOf("k0;" + sorts[k] + note + ",5;");
                    Due.is(sorts[k] + " of " + note + " by " + other, x.sneeze(other, 0), ways[k] >> apart & 1);
                }
            }
        }
    }

    private static void thickOnesNeedTwo() {
        Due.is("one sound is too little", Due.cellarOf("k8;h4,9;g4,9;").sneeze(4, 0), 2);
        Due.is("two at once will do", Due.cellarOf("k8;h4,9;g4,9;g4,9;").sneeze(4, 0), 7);
        Due.is("one in each of two rounds will not",
            Due.cellarOf("k1;h4,9;g4,9;g4,9;g4,9;").sneeze(4, 3), 14);
        Due.is("two of another note will not", Due.cellarOf("k8;h4,9;t5,9;t5,9;").sneeze(5, 0), 6);
        Due.is("two that are too far will not", Due.cellarOf("k1;h4,9;g4,9;g4,9;").sneeze(4, 1), 6);
        Due.is("a sound is gone behind its round", Due.cellarOf("k8;g0,9;t1,9;h0,9;g1,9;").sneeze(0, 0), 11);
    }

    private static void jarsAreOpened() {
        JarNotes x = Due.cellarOf("k0;g7,1;s3,9;");
        Due.is("open(1)", x.open(1), 3);
        Due.is("it is opened", x.jar(1, 3), 3);
        Due.is("open(1) again", x.open(1), Due.STATE);
        Due.is("open(2)", x.open(2), Due.BAD);
        Due.is("open(-1)", x.open(-1), Due.BAD);
        x.years(1);
        Due.is("a mouldy one", x.open(0), Due.STATE);
        x.seal(0, 8, 2);
        x.sneeze(8, 0);
        Due.is("a broken one", x.open(0), Due.STATE);
        Due.is("acts", x.count(6), 4);
        Due.is("no cellar", new JarNotes().open(0), Due.BAD);
    }

    private static void placesAreChanged() {
        JarNotes x = Due.cellarOf("k0;g1,9;g2,9;g3,9;");
        Due.is("change(0, 2)", x.change(0, 2), 2);
        Due.is("place of 2", x.jar(2, 2), 0);
        Due.is("place of 1", x.jar(1, 2), 1);
        Due.is("change(1, 0)", x.change(1, 0), 2);
        Due.is("place of 0", x.jar(0, 2), 1);
        Due.is("a sneeze is heard at the new place", x.sneeze(1, 1), 1);
        Due.is("broken ones change too", x.change(0, 1), 2);
        Due.is("alike", x.change(1, 1), Due.BAD);
        Due.is("no such jar", x.change(0, 3), Due.BAD);
        Due.is("no such jar", x.change(-1, 0), Due.BAD);
        Due.is("acts", x.count(6), 4);
        Due.is("no cellar", new JarNotes().change(0, 1), Due.BAD);
    }

    private static void jarsAreSealedAnew() {
        JarNotes x = Due.cellarOf("k0;g1,1;g2,9;t3,9;");
        x.years(1);
        x.open(1);
        x.sneeze(3, 2);
        Due.is("none is whole", x.stand(0), 0);
        Due.is("a mouldy one", x.seal(0, 0, 1), 1);
        Due.is("an opened one", x.seal(1, 11, 60), 3);
        Due.is("a broken one", x.seal(2, 5, 7), 7);
        Due.is("its note", x.jar(2, 0), 5);
        Due.is("its years", x.jar(2, 1), 7);
        Due.is("its kind stays", x.kind(2), 2);
        Due.is("it is whole", x.jar(2, 3), 0);
        Due.is("a whole one", x.seal(0, 0, 1), Due.STATE);
        Due.is("BAD goes ahead of STATE", x.seal(0, 12, 1), Due.BAD);
        x.open(0);
        Due.is("note 12", x.seal(0, 12, 1), Due.BAD);
        Due.is("note -1", x.seal(0, -1, 1), Due.BAD);
        Due.is("years 0", x.seal(0, 0, 0), Due.BAD);
        Due.is("years 61", x.seal(0, 0, 61), Due.BAD);
        Due.is("jar 3", x.seal(3, 0, 1), Due.BAD);
        Due.is("acts", x.count(6), 7);
        Due.is("no cellar", new JarNotes().seal(0, 0, 1), Due.BAD);
    }

    private static void reachIsAnother() {
        JarNotes x = new JarNotes();
        Due.is("no cellar", x.reach(1), Due.STATE);
        Due.is("no cellar goes ahead", x.reach(9), Due.STATE);
        Due.read(x, "k4;g1,1;g2,9;t3,9;");
        Due.is("reach(0)", x.reach(0), 4);
        Due.is("reach(8)", x.reach(8), 0);
        Due.is("reach(9)", x.reach(9), Due.BAD);
        Due.is("reach(-1)", x.reach(-1), Due.BAD);
        Due.is("count(3)", x.count(3), 8);
        Due.is("acts", x.count(6), 2);
        x.undo();
        Due.is("undone", x.count(3), 0);
    }

    private static void jarsAreTold() {
        JarNotes x = Due.cellarOf("k0;g1,1;g2,9;t3,9;c4,8;");
        Due.is("jar(4)", x.jar(4, 0), Due.BAD);
        Due.is("jar(-1)", x.jar(-1, 0), Due.BAD);
        Due.is("what 4", x.jar(0, 4), Due.BAD);
        Due.is("what -1", x.jar(0, -1), Due.BAD);
        x.years(1);
        x.open(1);
        x.sneeze(3, 2);
        int[] hows = {2, 3, 1, 0};
        for (int j = 0; j < 4; j++) {
            Due.is("how " + j + " is", x.jar(j, 3), hows[j]);
            Due.is("stand(" + hows[j] + ")", x.stand(hows[j]), 1 << j);
        }
        Due.is("stand(4)", x.stand(4), Due.BAD);
        Due.is("stand(-1)", x.stand(-1), Due.BAD);
        Due.is("no cellar goes ahead", new JarNotes().stand(4), Due.STATE);
    }

    private static void actsAreUndone() {
        JarNotes x = Due.cellarOf("k1;g1,2;g1,9;t3,9;");
        x.years(2);
        x.sneeze(1, 1);
        x.open(2);
        x.change(0, 2);
        x.seal(0, 6, 5);
        x.reach(7);
        Due.is("seven acts", x.count(6), 7);
        Due.is("undo reach", x.undo(), 6);
        Due.is("reach is 1", x.count(3), 1);
        Due.is("undo seal", x.undo(), 5);
        Due.is("its note is 1", x.jar(0, 0), 1);
        Due.is("it keeps none", x.jar(0, 1), 0);
        Due.is("it is mouldy", x.jar(0, 3), 2);
        Due.is("undo change", x.undo(), 4);
        Due.is("place of 0", x.jar(0, 2), 0);
        Due.is("place of 2", x.jar(2, 2), 2);
        Due.is("undo open", x.undo(), 3);
        Due.is("none is opened", x.stand(3), 0);
        Due.is("undo sneeze", x.undo(), 2);
        Due.is("none is broken", x.stand(1), 0);
        Due.is("undo a year", x.undo(), 1);
        Due.is("year 1", x.count(2), 1);
        Due.is("none is mouldy", x.stand(2), 0);
        Due.is("it keeps one", x.jar(0, 1), 1);
        Due.is("undo a year", x.undo(), 0);
        Due.is("it keeps two", x.jar(0, 1), 2);
        Due.is("none can be undone", x.undo(), Due.STATE);
    }

    private static void theOldestActIsForgotten() {
        JarNotes x = Due.cellarOf("k0;g1,60;");
        x.years(20);
        x.years(10);
        Due.is("24 are kept", x.count(6), 24);
        x.undo();
        x.undo();
        x.open(0);
        Due.is("23 can be undone", x.count(6), 23);
        for (int left = 22; left >= 0; left--) {
            Due.is("undo", x.undo(), left);
        }
        Due.is("six years stay", x.count(2), 6);
        Due.is("it keeps 54", x.jar(0, 1), 54);
        Due.is("no more", x.undo(), Due.STATE);
    }

    private static void refusalsAreNoActs() {
        JarNotes x = Due.cellarOf("k0;g1,60;g2,3;");
        x.years(0);
        x.sneeze(12, 0);
        x.open(2);
        x.change(0, 0);
        x.seal(0, 1, 1);
        x.reach(9);
        Due.is("no acts", x.count(6), 0);
        x.open(0);
        x.open(0);
        Due.is("one act", x.count(6), 1);
    }
}
