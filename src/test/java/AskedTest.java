/** Promises 34 to 38: kinds, asks of jars and their trace, and what is counted. */
public final class AskedTest {
    public static void main(String[] args) {
        kinds();
        takenAs();
        asks();
        asksOfWhatIsNow();
        traces();
        counts();
        Due.end("AskedTest");
    }

    private static JarNotes five() {
        return Due.cellarOf("k1;g4,9;t5,3;h6,20;s9,7;c10,60;");
    }

    private static void kinds() {
        JarNotes x = five();
        for (int j = 0; j < 5; j++) {
            Due.is("kind(" + j + ")", x.kind(j), j + 1);
        }
        Due.is("kind(5)", x.kind(5), Due.BAD);
        Due.is("kind(-1)", x.kind(-1), Due.BAD);
        Due.is("no cellar", new JarNotes().kind(0), Due.BAD);
    }

    private static void takenAs() {
        JarNotes x = five();
        // by jar: the kinds that it is, as bits
        int[] are = {3, 7, 11, 17, 49};
        for (int j = 0; j < 5; j++) {
            for (int k = 0; k < 6; k++) {
                boolean is = (are[j] >> k & 1) != 0;
                Due.is("as(" + j + ", " + k + ")", x.as(j, k), is ? j : Due.KIND);
                Due.is("its status", x.status(), is ? 0 : 3);
            }
        }
        Due.is("as(0, 6)", x.as(0, 6), Due.BAD);
        Due.is("as(0, -1)", x.as(0, -1), Due.BAD);
        Due.is("as(5, 0)", x.as(5, 0), Due.BAD);
        Due.is("as(-1, 0)", x.as(-1, 0), Due.BAD);
        Due.is("no cellar", new JarNotes().as(0, 0), Due.BAD);
    }

    private static void asks() {
        JarNotes x = five();
        asked(x, 0, 0, 4 + 9, 11, 10, 21, 20);
        asked(x, 0, 1, 9, 21, 20);
        asked(x, 1, 0, -(5 + 8), 12, 11, 10, 24, 21, 20);
        asked(x, 1, 1, 8, 24, 21, 20);
        asked(x, 2, 0, 6 - 978, 11, 10, 22, 21, 20);
        asked(x, 2, 1, 2 + 20 - 1000, 22, 21, 20);
        asked(x, 3, 0, 9 - 100, 13, 10);
        asked(x, 3, 1, 3 + 91, 23, 20, 13, 10);
        asked(x, 4, 0, -180, 14, 13, 10);
        asked(x, 4, 1, 4 + 180, 23, 20, 14, 13, 10);
        Due.is("ask(5, 0)", x.ask(5, 0), Due.BAD);
        Due.is("ask(-1, 0)", x.ask(-1, 0), Due.BAD);
        Due.is("ask(0, 2)", x.ask(0, 2), Due.BAD);
        Due.is("ask(0, -1)", x.ask(0, -1), Due.BAD);
        Due.is("no cellar", new JarNotes().ask(0, 0), Due.BAD);
    }

    private static void asked(JarNotes x, int jar, int what, int answer, int... trace) {
        Due.is("ask(" + jar + ", " + what + ")", x.ask(jar, what), answer);
        for (int i = 0; i < trace.length; i++) {
            Due.is("trace(" + i + ") of ask(" + jar + ", " + what + ")", x.trace(i), trace[i]);
        }
        Due.is("the trace ends", x.trace(trace.length), Due.NONE);
    }

    private static void asksOfWhatIsNow() {
        JarNotes x = five();
        x.years(4);
        Due.is("years that it keeps yet", x.ask(0, 1), 5);
        Due.is("a mouldy one keeps none", x.ask(1, 1), 2);
        x.open(0);
        x.seal(0, 11, 2);
        Due.is("sealed anew", x.ask(0, 0), 13);
        x.change(0, 4);
        Due.is("the number, not the place", x.ask(0, 1), 2);
    }

    private static void traces() {
        JarNotes x = five();
        Due.is("empty", x.trace(0), Due.NONE);
        x.ask(3, 0);
        x.ask(9, 0);
        x.ask(0, 2);
        Due.is("a refused ask leaves it", x.trace(0), 13);
        Due.is("trace(-1)", x.trace(-1), Due.NONE);
        Due.is("trace(16)", x.trace(16), Due.NONE);
        Due.is("trace of the most", x.trace(Integer.MAX_VALUE), Due.NONE);
        Due.is("trace of the least", x.trace(Integer.MIN_VALUE), Due.NONE);
        x.years(1);
        x.undo();
        Due.is("acts leave it", x.trace(1), 10);
    }

    private static void counts() {
        JarNotes x = five();
        x.row(4, 0, 4);
        x.row(5, 0, 0);
        x.years(3);
        x.sneeze(4, 0);
        x.open(3);
        x.feed('k');
        int[] due = {2, 5, 3, 1, 2, 1, 5, 1};
        for (int what = 0; what < 8; what++) {
            Due.is("count(" + what + ")", x.count(what), due[what]);
        }
        Due.is("count(8)", x.count(8), Due.BAD);
        Due.is("count(-1)", x.count(-1), Due.BAD);
    }
}
