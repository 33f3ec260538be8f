/** Promises 18 to 33: what is foretold, and images. The answers were worked out by hand, but as told. */
public final class ForetoldTest {
    private static final int MAX = Integer.MAX_VALUE;
    private static final int MIN = Integer.MIN_VALUE;

    public static void main(String[] args) {
        chains();
        worsts();
        whens();
        keeps();
        guards();
        changes();
        tunes();
        spares();
        alikes();
        songs();
        songsAreRefused();
        whos();
        whosAreRefused();
        reaches();
        moulds();
        draws();
        images();
        nothingChanges();
        Due.end("ForetoldTest");
    }

    private static void chains() {
        JarNotes x = Due.cellarOf("k1;t0,9;t1,9;t2,9;g2,9;h2,9;");
        Due.is("which", x.chain(0, 0, 0), 15);
        Due.is("rounds", x.chain(0, 0, 1), 3);
        Due.is("from the other end", x.chain(2, 4, 0), 15);
        Due.is("its rounds", x.chain(2, 4, 1), 4);
        Due.is("none", x.chain(7, 2, 0), 0);
        Due.is("no round", x.chain(7, 2, 1), 0);
        int[][] bad = {{-1, 0, 0}, {12, 0, 0}, {0, -1, 0}, {0, 5, 0}, {0, 0, -1}, {0, 0, 2}, {MAX, MIN, 0}};
        for (int[] b : bad) {
            Due.is("chain BAD", x.chain(b[0], b[1], b[2]), Due.BAD);
        }
        Due.is("no cellar", new JarNotes().chain(0, 0, 0), Due.BAD);
    }

    private static void worsts() {
        JarNotes x = Due.cellarOf("k0;g5,9;g6,9;g6,9;");
        Due.is("the first of several", x.worst(0), 500);
        Due.is("one breaks", x.worst(1), 1);
        x.reach(1);
        Due.is("the least note, then place, by which two break", x.worst(0), 600);
        Due.is("two break", x.worst(1), 2);
        JarNotes none = Due.cellarOf("k0;g5,1;");
        none.years(1);
        Due.is("none is whole", none.worst(0), 0);
        Due.is("none breaks", none.worst(1), 0);
        Due.is("worst(2)", x.worst(2), Due.BAD);
        Due.is("worst(-1)", x.worst(-1), Due.BAD);
        Due.is("no cellar goes ahead", new JarNotes().worst(2), Due.STATE);
    }

    private static void whens() {
        JarNotes x = Due.cellarOf("k0;g5,1;g6,60;g7,9;g8,4;");
        Due.is("60", x.when(1), 60);
        Due.is("1", x.when(0), 1);
        x.years(1);
        Due.is("it is", x.when(0), 0);
        Due.is("59", x.when(1), 59);
        x.open(2);
        x.sneeze(8, 3);
        Due.is("opened", x.when(2), Due.NONE);
        Due.is("broken", x.when(3), Due.NONE);
        Due.is("no such jar", x.when(4), Due.BAD);
        Due.is("no such jar", x.when(-1), Due.BAD);
    }

    private static void keeps() {
        JarNotes x = Due.cellarOf("k0;g5,1;g6,60;g7,59;g8,4;");
        Due.is("kept(0)", x.kept(0), 15);
        Due.is("kept(1)", x.kept(1), 14);
        Due.is("kept(3)", x.kept(3), 14);
        Due.is("kept(4)", x.kept(4), 6);
        Due.is("kept(59)", x.kept(59), 2);
        Due.is("kept(60)", x.kept(60), 0);
        x.open(1);
        Due.is("opened ones are not", x.kept(4), 4);
        Due.is("kept(61)", x.kept(61), Due.BAD);
        Due.is("kept(-1)", x.kept(-1), Due.BAD);
        Due.is("no cellar goes ahead", new JarNotes().kept(-1), Due.STATE);
    }

    private static void guards() {
        JarNotes x = Due.cellarOf("k1;g0,9;g0,9;g0,9;g0,9;");
        // from place 0: jars 0 and 1 hear it, 2 and 3 go by 1 and 2
        guard(x, 4, 0, 0);
        guard(x, 3, 1, 1);
        guard(x, 2, 1, 2);
        guard(x, 1, 1, 2);
        guard(x, 0, 2, 3);
        x.open(0);
        guard(x, 0, 1, 2);
        int[][] bad = {{12, 0, 0, 0}, {-1, 0, 0, 0}, {0, 4, 0, 0}, {0, -1, 0, 0}, {0, 0, 9, 0}, {0, 0, -1, 0},
            {0, 0, 0, 2}, {0, 0, 0, -1}};
        for (int[] b : bad) {
            Due.is("guard BAD", x.guard(b[0], b[1], b[2], b[3]), Due.BAD);
        }
        Due.is("k 8", x.guard(0, 0, 8, 0), 0);
        JarNotes eight = Due.cellarOf("k8;g0,9;g0,9;g0,9;g0,9;g0,9;g0,9;g0,9;g0,9;");
        guard(eight, 0, 8, 255);
        guard(eight, 1, 7, 127);
        guard(eight, 7, 1, 1);
        guard(eight, 8, 0, 0);
        Due.is("no cellar", new JarNotes().guard(0, 0, 0, 0), Due.BAD);
    }

    private static void guard(JarNotes x, int k, int howMany, int which) {
        Due.is("guard, how many, " + k, x.guard(0, 0, k, 0), howMany);
        Due.is("guard, which, " + k, x.guard(0, 0, k, 1), which);
    }

    private static void changes() {
        JarNotes x = Due.cellarOf("k0;g0,9;g0,9;");
        Due.is("nothing is better", x.changes(0), Due.NONE);
        Due.is("nothing is better", x.changes(1), Due.NONE);
        JarNotes y = Due.cellarOf("k1;g0,9;g0,9;g3,9;g6,9;");
        // two of a note that are 2 apart both hear a sneeze between them; 3 apart, one alone hears it
        Due.is("which", y.changes(0), 13);
        Due.is("how many", y.changes(1), 1);
        JarNotes z = Due.cellarOf("k1;g0,9;g0,9;g3,1;g6,1;");
        z.years(1);
        Due.is("jars that are not whole change too", z.changes(0), 13);
        JarNotes one = Due.cellarOf("k1;g0,9;");
        Due.is("one jar alone", one.changes(0), Due.NONE);
        Due.is("changes(2)", x.changes(2), Due.BAD);
        Due.is("changes(-1)", x.changes(-1), Due.BAD);
        Due.is("no cellar goes ahead", new JarNotes().changes(2), Due.STATE);
    }

    private static void tunes() {
        JarNotes x = Due.cellarOf("k8;g0,9;g0,9;g1,9;");
        Due.is("0: the least note but 0 and 1", x.tuned(0, 0), 2);
        Due.is("how many", x.tuned(0, 1), 1);
        Due.is("2: as it is", x.tuned(2, 0), 1);
        Due.is("2: how many", x.tuned(2, 1), 2);
        x.sneeze(0, 0);
        Due.is("a broken one is whole then", x.tuned(0, 0), 0);
        Due.is("how many", x.tuned(0, 1), 1);
        JarNotes thick = Due.cellarOf("k8;h0,9;");
        Due.is("none breaks", thick.tuned(0, 1), 0);
        Due.is("the least note", thick.tuned(0, 0), 0);
        // found by a search, and by Plain too: whatever its note is, all eight go
        JarNotes all = Due.cellarOf("k8;c3,9;s5,9;s5,9;c0,9;c4,9;t11,9;c3,9;t2,9;");
        all.tuned(0, 0);
        Due.is("all break: the least note", all.tuned(7, 0), 0);
        Due.is("all break: how many", all.tuned(7, 1), 8);
        // the other three go one by one; a crock of any note goes with one of them at least
        JarNotes bound = Due.cellarOf("k5;c11,9;t0,9;c9,9;g10,9;");
        Due.is("no note keeps it apart: the least", bound.tuned(0, 0), 0);
        Due.is("two break", bound.tuned(0, 1), 2);
        Due.is("tuned(3)", x.tuned(3, 0), Due.BAD);
        Due.is("tuned(-1)", x.tuned(-1, 0), Due.BAD);
        Due.is("what 2", x.tuned(0, 2), Due.BAD);
        Due.is("what -1", x.tuned(0, -1), Due.BAD);
        Due.is("no cellar", new JarNotes().tuned(0, 0), Due.BAD);
    }

    private static void spares() {
        JarNotes x = Due.cellarOf("k8;g3,9;g0,9;g0,9;g0,9;g3,9;");
        Due.is("one of the three", x.spared(0), 1);
        Due.is("two break then", x.spared(1), 2);
        x.open(1);
        Due.is("no use: the least that is whole", x.spared(0), 0);
        Due.is("two yet", x.spared(1), 2);
        JarNotes none = Due.cellarOf("k8;g3,9;");
        none.open(0);
        Due.is("none is whole", none.spared(0), Due.NONE);
        Due.is("none is whole", none.spared(1), Due.NONE);
        Due.is("spared(2)", none.spared(2), Due.BAD);
        Due.is("spared(-1)", none.spared(-1), Due.BAD);
        Due.is("no cellar goes ahead", new JarNotes().spared(2), Due.STATE);
    }

    private static void alikes() {
        // 0 and 2: glass; 1 and 3: thin; 4 and 5: stone and crock, 5 apart; thick ones never
        JarNotes x = Due.cellarOf("k8;g0,9;t4,9;g0,9;t5,9;s7,9;c2,9;h9,9;h9,9;");
        Due.is("how many", x.alike(0), 3);
        Due.is("the first", x.alike(1), 2);
        x.open(0);
        Due.is("whole ones alone", x.alike(0), 2);
        Due.is("the first", x.alike(1), 13);
        x.reach(1);
        Due.is("near ones alone", x.alike(0), 1);
        Due.is("the first", x.alike(1), 45);
        x.reach(0);
        Due.is("none", x.alike(0), 0);
        Due.is("none", x.alike(1), Due.NONE);
        JarNotes oneWay = Due.cellarOf("k8;g0,9;t1,9;c6,9;");
        Due.is("one way alone is not alike", oneWay.alike(0), 0);
        Due.is("alike(2)", x.alike(2), Due.BAD);
        Due.is("alike(-1)", x.alike(-1), Due.BAD);
        Due.is("no cellar goes ahead", new JarNotes().alike(2), Due.STATE);
    }

    private static void songs() {
        JarNotes x = Due.cellarOf("k0;g5,9;g3,9;g5,9;g5,1;g0,9;");
        Due.fill(x, 0, 0, 9, 5, 3, 5, 5, 5, 11, 0, 9, 9, 9, 9, 9, 9);
        Due.is("the least first", x.song(0, 0, 1, 1), 1);
        Due.is("none lacks", x.song(1, 0, 1, 1), 0);
        Due.is("another for each", x.song(0, 0, 1, 3), 7);
        Due.is("four of a note, three jars", x.song(0, 0, 1, 5), 15);
        Due.is("one lacks", x.song(1, 0, 1, 5), 1);
        Due.is("behind one that lacks it goes on", x.song(0, 0, 1, 7), 31);
        Due.is("two lack", x.song(1, 0, 1, 7), 2);
        Due.is("twelve", x.song(1, 0, 0, 12), 7);
        x.years(1);
        Due.is("whole ones alone", x.song(0, 0, 1, 5), 7);
        Due.is("two lack now", x.song(1, 0, 1, 5), 2);
        Due.is("none is opened", x.stand(3), 0);
    }

    private static void songsAreRefused() {
        JarNotes x = new JarNotes();
        Due.is("no cellar goes ahead", x.song(2, 9, 0, 0), Due.STATE);
        Due.read(x, "k0;g5,9;");
        Due.fill(x, 0, 2, 11, 12, -1, 0);
        int[][] bad = {{2, 0, 0, 1}, {-1, 0, 0, 1}, {0, 8, 0, 1}, {0, -1, 0, 1}, {0, 0, 0, 0}, {0, 0, 0, 13}, {0, 1, 0, 13}};
        for (int[] b : bad) {
            Due.is("song BAD", x.song(b[0], b[1], b[2], b[3]), Due.BAD);
        }
        Due.is("missing", x.song(0, 1, -1, 1), Due.NULL);
        int[][] beyond = {{-1, 1}, {4, 1}, {0, 5}, {3, 2}, {MAX, 1}, {MAX, 12}, {MIN, 12}};
        for (int[] b : beyond) {
            Due.is("song PLACE", x.song(0, 0, b[0], b[1]), Due.PLACE);
        }
        Due.is("12 is no note", x.song(0, 0, 0, 2), Due.KIND);
        Due.is("-1 is no note", x.song(0, 0, 2, 2), Due.KIND);
        Due.is("PLACE goes ahead of KIND", x.song(0, 0, 1, 4), Due.PLACE);
        Due.is("11 is one", x.song(1, 0, 0, 1), 1);
    }

    private static void whos() {
        JarNotes x = Due.cellarOf("k0;g5,9;");
        Due.fill(x, 0, 0, 0, 0, 0, 0, 0, 1, 0, 0, 0, 0, 0, 0);
        Due.is("as it is: glass", x.who(0, 0, 0, 0, 0, 12), 2);
        Due.is("as it is: 5", x.who(0, 1, 0, 0, 0, 12), 32);
        Due.is("of notes 0 to 3: all but stone and crock", x.who(0, 0, 0, 0, 0, 4), 14);
        Due.is("of note 0: stone and crock", x.who(0, 0, 0, 0, 5, 1), 48);
        Due.is("of note 0: glass of 0", x.who(0, 1, 0, 0, 5, 1), 1);
        Due.fill(x, 0, 0, 0, 0, 0, 0, 1, 1, 1, 0);
        Due.is("thin", x.who(0, 0, 0, 0, 0, 8), 4);
        Due.fill(x, 0, 0, 1, 0, 0, 0, 0, 0, 0, 0, 0, 0, 1, 0);
        Due.is("stone", x.who(0, 0, 0, 0, 0, 12), 16);
        Due.fill(x, 0, 0, 1, 0, 0, 0, 0, 0, 0, 0, 0, 0, 1, 1);
        Due.is("crock", x.who(0, 0, 0, 0, 0, 12), 32);
        Due.fill(x, 0, 0, 0, 0, 0, 0, 0, 0, 0, 0, 0, 0, 0, 0);
        Due.is("thick", x.who(0, 0, 0, 0, 0, 12), 8);
        Due.is("no note", x.who(0, 1, 0, 0, 0, 12), 0);
        Due.is("any note from 4 on", x.who(0, 1, 0, 0, 0, 4), 4080);
        x.open(0);
        Due.is("opened: all kinds fit", x.who(0, 0, 0, 0, 0, 12), 62);
        Due.is("opened: all notes fit", x.who(0, 1, 0, 0, 0, 12), 4095);
        JarNotes pair = Due.cellarOf("k1;g0,9;g0,9;");
        Due.fill(pair, 0, 2, 1, 1);
        Due.is("it was a 1", pair.who(1, 1, 0, 0, 0, 2), 2);
        Due.is("kinds of 1: stone ones do not, thin one does twice", pair.who(1, 0, 0, 0, 0, 2), 0);
        Due.is("who changes nothing", pair.jar(1, 0) * 10 + pair.kind(1), 1);
    }

    private static void whosAreRefused() {
        JarNotes x = Due.cellarOf("k0;g5,9;g6,9;");
        Due.fill(x, 0, 2, 7, 7, 7);
        int[][] bad = {{2, 0, 0, 0, 0, 1}, {-1, 0, 0, 0, 0, 1}, {0, 2, 0, 0, 0, 1}, {0, -1, 0, 0, 0, 1},
            {0, 0, 2, 0, 0, 1}, {0, 0, -1, 0, 0, 1}, {0, 0, 0, 8, 0, 1}, {0, 0, 0, -1, 0, 1}, {0, 0, 0, 0, 0, 0},
            {0, 0, 0, 0, 0, 13}, {0, 0, 0, 1, 0, 0}};
        for (int[] b : bad) {
            Due.is("who BAD", x.who(b[0], b[1], b[2], b[3], b[4], b[5]), Due.BAD);
        }
        Due.is("missing", x.who(0, 0, 0, 1, -1, 1), Due.NULL);
        int[][] beyond = {{-1, 1}, {3, 1}, {0, 4}, {2, 2}, {MAX, 1}, {MAX, 12}, {MIN, 12}};
        for (int[] b : beyond) {
            Due.is("who PLACE", x.who(0, 0, 0, 0, b[0], b[1]), Due.PLACE);
            Due.is("reaches PLACE", x.reaches(0, 0, b[0], b[1]), Due.PLACE);
        }
        Due.is("nothing fits 7", x.who(0, 0, 0, 0, 0, 3), 0);
        Due.is("no cellar", new JarNotes().who(0, 0, 0, 0, 0, 1), Due.BAD);
        int[][] worse = {{2, 0, 0, 1}, {-1, 0, 0, 1}, {0, 8, 0, 1}, {0, -1, 0, 1}, {0, 0, 0, 0}, {0, 0, 0, 13}};
        for (int[] b : worse) {
            Due.is("reaches BAD", x.reaches(b[0], b[1], b[2], b[3]), Due.BAD);
        }
        Due.is("missing", x.reaches(0, 1, -1, 1), Due.NULL);
        Due.is("no cellar", new JarNotes().reaches(0, 0, 0, 1), Due.BAD);
    }

    private static void reaches() {
        JarNotes x = Due.cellarOf("k1;g0,9;g1,9;g1,9;g0,9;g1,9;");
        Due.fill(x, 0, 1, 2, 2, 1, 0, 2, 3);
        Due.is("note 0: two by reach 3 or more", x.reaches(0, 0, 0, 1), 504);
        Due.is("note 1: two by reach 1 alone, and then one of note 0", x.reaches(0, 0, 0, 2), 0);
        Due.is("note 0: one, note 1: none", x.reaches(0, 0, 2, 2), 1);
        Due.is("note 0: two, note 1: three", x.reaches(0, 0, 4, 2), 504);
        Due.fill(x, 0, 1, 1, 2);
        Due.is("note 0: one, note 1: two", x.reaches(0, 0, 0, 2), 2);
        Due.is("from place 1: reach 1", x.reaches(1, 0, 0, 2), 2);
        Due.is("reach stays", x.count(3), 1);
        x.open(3);
        Due.fill(x, 0, 1, 1);
        Due.is("all reaches", x.reaches(0, 0, 0, 1), 511);
    }

    private static void moulds() {
        JarNotes x = Due.cellarOf("k1;g0,9;g0,9;h0,9;g0,1;");
        odds(x, 0, 0, 0, 3, 7, 10);
        odds(x, 0, 0, 0, 0, 1, 1);
        odds(x, 0, 0, 0, 10, 0, 1);
        odds(x, 0, 5, 0, 3, 0, 1);
        // 2 hears 1 and 3 at once if 2 is the place: 1, 2 and 3 all whole
        odds(x, 2, 0, 2, 5, 1, 8);
        odds(x, 2, 0, 2, 1, 729, 1000);
        // 0 hears 1 alone then
        odds(x, 0, 0, 2, 1, 81, 100);
        x.years(1);
        odds(x, 3, 0, 2, 1, 0, 1);
        odds(x, 2, 0, 2, 1, 0, 1);
        JarNotes ways = Due.cellarOf("k1;g0,9;g0,9;g0,9;");
        // jar 2 from place 0: 1 and 2 are whole; jar 0 makes no odds
        odds(ways, 2, 0, 0, 4, 9, 25);
        odds(ways, 1, 0, 0, 6, 2, 5);
        JarNotes eight = Due.cellarOf("k1;g0,9;g0,9;g0,9;g0,9;g0,9;g0,9;g0,9;g0,9;");
        odds(eight, 7, 0, 0, 1, 4782969, 10000000);
        int[][] bad = {{8, 0, 0, 0, 0}, {-1, 0, 0, 0, 0}, {0, 12, 0, 0, 0}, {0, -1, 0, 0, 0}, {0, 0, 8, 0, 0},
            {0, 0, -1, 0, 0}, {0, 0, 0, 11, 0}, {0, 0, 0, -1, 0}, {0, 0, 0, 0, 2}, {0, 0, 0, 0, -1}};
        for (int[] b : bad) {
            Due.is("mould BAD", eight.mould(b[0], b[1], b[2], b[3], b[4]), Due.BAD);
        }
    }

    private static void odds(JarNotes x, int jar, int note, int place, int p, long above, long below) {
        Due.is("mould above", x.mould(jar, note, place, p, 0), above);
        Due.is("mould below", x.mould(jar, note, place, p, 1), below);
    }

    private static void draws() {
        // seed 1: X is 16807 (rest 1 by 3), 282475249 (rest 1), 1622650073 (rest 2), 984943658 (rest 2),
        // 1144108930 (rest 1), 470211272 (rest 2), 101027544 (rest 0: NOTE 0, PLACE 0 of 2)
        JarNotes x = Due.cellarOf("k0;g0,9;g0,6;");
        Due.is("six years", x.drawn(6, 1, 0), 1);
        Due.is("none broken", x.drawn(6, 1, 1), 0);
        Due.is("in the seventh it goes", x.drawn(7, 1, 0), 0);
        Due.is("one is broken", x.drawn(7, 1, 1), 1);
        Due.is("no years", x.drawn(0, 1, 0), 3);
        x.open(0);
        Due.is("not if it is opened", x.drawn(7, 1, 1), 0);
        // seed 3: 50421 (rest 0: NOTE 9, PLACE 1 of 2)
        JarNotes y = Due.cellarOf("k0;g9,9;g9,1;");
        Due.is("the sneeze goes ahead of the year", y.drawn(1, 3, 1), 1);
        Due.is("at its place alone", y.drawn(1, 3, 0), 1);
        y.sneeze(9, 0);
        Due.is("what was broken is told too", y.drawn(1, 3, 1), 2);
        int[][] bad = {{-1, 1, 0}, {61, 1, 0}, {0, 0, 0}, {0, 1000000, 0}, {0, 1, 2}, {0, 1, -1}, {0, -5, 0}};
        for (int[] b : bad) {
            Due.is("drawn BAD", x.drawn(b[0], b[1], b[2]), Due.BAD);
        }
        Due.is("60 years", x.drawn(60, 999999, 0), 0);
        Due.is("no cellar goes ahead", new JarNotes().drawn(-1, 0, 2), Due.STATE);
    }

    private static void images() {
        JarNotes x = new JarNotes();
        Due.is("BAD goes ahead", x.image(2), Due.BAD);
        Due.is("image(-1)", x.image(-1), Due.BAD);
        Due.is("no cellar", x.image(0), Due.STATE);
        Due.is("restore(2)", x.restore(2), Due.BAD);
        Due.is("restore(-1)", x.restore(-1), Due.BAD);
        Due.read(x, "k1;g0,9;t1,8;");
        x.years(1);
        x.change(0, 1);
        x.open(1);
        Due.is("none was kept", x.restore(0), Due.STATE);
        Due.is("image(0)", x.image(0), 1);
        Due.is("acts stay", x.count(6), 3);
        x.years(2);
        x.reach(5);
        x.seal(1, 7, 7);
        Due.is("image(1)", x.image(1), 1);
        Due.is("another cellar", Due.read(x, "k2;c3,3;s4,4;c5,5;"), 3);
        Due.is("restore(0)", x.restore(0), 1);
        Due.is("jars", x.count(1), 2);
        Due.is("year", x.count(2), 1);
        Due.is("reach", x.count(3), 1);
        Due.is("opened", x.stand(3), 2);
        Due.is("place", x.jar(0, 2), 1);
        Due.is("years", x.jar(0, 1), 8);
        Due.is("kind", x.kind(1), 2);
        Due.is("no act can be undone", x.count(6), 0);
        Due.is("undo", x.undo(), Due.STATE);
        x.open(0);
        Due.is("an image is no part of what is done", x.restore(0), 1);
        Due.is("it is whole", x.stand(0), 1);
        Due.is("restore(1)", x.restore(1), 1);
        Due.is("its reach", x.count(3), 5);
        Due.is("its note", x.jar(1, 0), 7);
        x.image(0);
        x.undo();
        Due.is("an image anew", x.restore(0), 1);
        Due.is("its year", x.count(2), 3);
    }

    private static void nothingChanges() {
        JarNotes x = Due.cellarOf("k1;g0,9;t1,8;h0,7;s5,6;c6,5;");
        x.years(1);
        Due.fill(x, 0, 0, 1, 2, 3);
        x.set(0, 9, 9);
        x.chain(0, 0, 0);
        x.worst(0);
        x.when(0);
        x.kept(30);
        x.guard(0, 0, 0, 1);
        x.changes(0);
        x.tuned(4, 0);
        x.spared(0);
        x.alike(0);
        x.mould(0, 0, 0, 5, 0);
        x.drawn(60, 7, 0);
        Due.is("status stays", x.status(), 2);
        x.song(0, 0, 0, 3);
        x.who(0, 0, 0, 0, 0, 3);
        x.who(1, 1, 0, 0, 0, 3);
        x.reaches(0, 0, 0, 3);
        int[][] jars = {{0, 8, 0, 0, 1}, {1, 7, 1, 0, 2}, {0, 6, 2, 0, 3}, {5, 5, 3, 0, 4}, {6, 4, 4, 0, 5}};
        for (int j = 0; j < jars.length; j++) {
            for (int what = 0; what < 4; what++) {
                Due.is("jar " + j + " stays, " + what, x.jar(j, what), jars[j][what]);
            }
            Due.is("kind " + j + " stays", x.kind(j), jars[j][4]);
        }
        Due.is("the year stays", x.count(2), 1);
        Due.is("reach stays", x.count(3), 1);
        Due.is("acts stay", x.count(6), 1);
    }
}
