/** What every test of the project counts its answers with. */
final class Due {
    static final int NONE = -1000000, BAD = -1000001, STATE = -1000002, FULL = -1000003;
    static final int NULL = -1000011, PLACE = -1000012, KIND = -1000013, SIZE = -1000014, STORE = -1000015;

    // One jar of each note 0 to 7, so that a song of one item tells what the item is.
    static final String SCALE = "k0;g0,9;g1,9;g2,9;g3,9;g4,9;g5,9;g6,9;g7,9;";
    static final int MAX = Integer.MAX_VALUE, MIN = Integer.MIN_VALUE;

    private static String sentence = "";
    private static int right = 0;
    private static int wrong = 0;

    private Due() {
    }

    static void is(String call, long got, long want) {
        if (got == want) {
            right++;
            return;
        }
        wrong++;
        System.out.println(sentence + call + " answered " + got + ", due is " + want);
    }

    static void holds(String what, boolean so) {
        is(what, so ? 1 : 0, 1);
    }

    /** What is told ahead of each wrong answer from now on. */
    static void under(String words) {
        sentence = words;
    }

    static int answers() {
        return right + wrong;
    }

    static void feed(JarNotes x, String text) {
        for (int i = 0; i < text.length(); i++) {
            x.feed(text.charAt(i));
        }
    }

    static int read(JarNotes x, String text) {
        feed(x, text);
        return x.cellar();
    }

    static JarNotes cellarOf(String text) {
        JarNotes x = new JarNotes();
        if (read(x, text) <= 0) {
            holds("the text " + text + " is read", false);
        }
        return x;
    }

    static void fill(JarNotes x, int row, int lane, int... items) {
        x.row(row, lane, items.length);
        for (int i = 0; i < items.length; i++) {
            x.set(row, i, items[i]);
        }
    }

    /** The items of a row from 0 on, each 0 to 7; the cellar must be that of SCALE. */
    static void items(JarNotes x, int row, int... items) {
        for (int i = 0; i < items.length; i++) {
            is("item " + i + " of row " + row, x.song(0, row, i, 1), 1 << items[i]);
        }
    }

    static void end(String test) {
        System.out.println(test + ": " + right + " answers as due, " + wrong + " not");
        System.exit(wrong == 0 ? 0 : 1);
    }
}
