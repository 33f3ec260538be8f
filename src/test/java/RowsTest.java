/** Promises 1 to 5 and 39: a new object, rows, and what was found of them. */
public final class RowsTest {
    public static void main(String[] args) {
        newObject();
        rowsAreLaid();
        itemsAreSet();
        itemsAreCopied();
        copiesAreRefused();
        rowsAreDropped();
        statusTellsTheLatest();
        theLastCallIsAnswered();
        Due.end("RowsTest");
    }

    private static void newObject() {
        JarNotes x = new JarNotes();
        for (int what = 0; what < 8; what++) {
            Due.is("new: count(" + what + ")", x.count(what), 0);
        }
        Due.is("new: status", x.status(), 0);
        Due.is("new: fault", x.fault(), 0);
        Due.is("new: undo", x.undo(), Due.STATE);
        Due.is("new: stand", x.stand(0), Due.STATE);
        Due.is("new: jar", x.jar(0, 0), Due.BAD);
        Due.is("new: trace", x.trace(0), Due.NONE);
        Due.is("new: restore", x.restore(0), Due.STATE);
        for (int row = 0; row < 8; row++) {
            Due.is("new: drop(" + row + ")", x.drop(row), Due.NULL);
        }
    }

    private static void rowsAreLaid() {
        JarNotes x = Due.cellarOf(Due.SCALE);
        Due.is("row(0,0,0)", x.row(0, 0, 0), 0);
        Due.is("row(7,2,40)", x.row(7, 2, 40), 40);
        Due.is("row(3,1,1)", x.row(3, 1, 1), 1);
        Due.is("three rows", x.count(0), 3);
        Due.is("row(-1)", x.row(-1, 0, 1), Due.BAD);
        Due.is("row(8)", x.row(8, 0, 1), Due.BAD);
        Due.is("lane -1", x.row(1, -1, 1), Due.BAD);
        Due.is("lane 3", x.row(1, 3, 1), Due.BAD);
        Due.is("41 items", x.row(1, 0, 41), Due.BAD);
        Due.is("most items", x.row(1, 0, Integer.MAX_VALUE), Due.BAD);
        Due.is("-1 items", x.row(1, 0, -1), Due.SIZE);
        Due.is("least items", x.row(1, 0, Integer.MIN_VALUE), Due.SIZE);
        Due.is("BAD goes ahead of SIZE", x.row(8, 0, -1), Due.BAD);
        Due.is("BAD lane goes ahead of SIZE", x.row(0, 3, -1), Due.BAD);
        Due.is("three rows yet", x.count(0), 3);

        Due.fill(x, 2, 2, 5, 6, 7);
        Due.is("refused: all stays", x.row(2, 0, -1), Due.SIZE);
        Due.is("item 2 stays", x.song(0, 2, 2, 1), 128);
        Due.is("row again", x.row(2, 0, 3), 3);
        Due.is("its items are 0 again", x.song(0, 2, 2, 1), 1);
        Due.is("it is of the new lane", x.set(2, 0, 255), -1);
        x.row(2, 0, 1);
        Due.is("it is of the new size", x.set(2, 1, 0), Due.PLACE);
    }

    private static void itemsAreSet() {
        JarNotes x = Due.cellarOf(Due.SCALE);
        x.row(0, 0, 2);
        x.row(1, 1, 2);
        x.row(2, 2, 2);
        int[][] sets = {
            {0, 127, 127}, {0, 128, -128}, {0, 200, -56}, {0, 256, 0}, {0, -129, 127}, {0, Integer.MIN_VALUE, 0},
            {1, 32767, 32767}, {1, 32768, -32768}, {1, 65541, 5}, {1, -32769, 32767}, {1, 200, 200},
            {2, Integer.MAX_VALUE, Integer.MAX_VALUE}, {2, Integer.MIN_VALUE, Integer.MIN_VALUE}, {2, -1, -1},
        };
        for (int[] s : sets) {
            Due.is("set(" + s[0] + ", 1, " + s[1] + ")", x.set(s[0], 1, s[1]), s[2]);
        }
        x.set(1, 0, 3);
        x.set(1, 1, 4);
        Due.is("item 0 is 3", x.song(0, 1, 0, 1), 8);
        Due.is("item 1 is 4", x.song(0, 1, 1, 1), 16);
        Due.is("set: no such row", x.set(-1, 0, 0), Due.BAD);
        Due.is("set: no such row", x.set(8, 0, 0), Due.BAD);
        Due.is("set: missing", x.set(3, 0, 0), Due.NULL);
        Due.is("set: missing goes ahead", x.set(3, -1, 0), Due.NULL);
        Due.is("set: below", x.set(1, -1, 7), Due.PLACE);
        Due.is("set: beyond", x.set(1, 2, 7), Due.PLACE);
        Due.is("set: far below", x.set(1, Integer.MIN_VALUE, 7), Due.PLACE);
        Due.is("set: far beyond", x.set(1, Integer.MAX_VALUE, 7), Due.PLACE);
        Due.is("all stays", x.song(0, 1, 0, 2), 24);
        x.row(4, 0, 0);
        Due.is("an empty row has no place", x.set(4, 0, 0), Due.PLACE);
    }

    private static void itemsAreCopied() {
        JarNotes x = Due.cellarOf(Due.SCALE);
        Due.fill(x, 0, 0, 1, 2, 3, 4, 5);
        Due.is("copy upwards", x.copy(0, 0, 0, 1, 4), 4);
        int[] up = {1, 1, 2, 3, 4};
        Due.items(x, 0, up);
        Due.fill(x, 0, 0, 1, 2, 3, 4, 5);
        Due.is("copy downwards", x.copy(0, 2, 0, 0, 3), 3);
        int[] down = {3, 4, 5, 4, 5};
        Due.items(x, 0, down);
        x.row(1, 0, 3);
        Due.is("copy to another", x.copy(0, 1, 1, 2, 1), 1);
        int[] other = {0, 0, 4};
        Due.items(x, 1, other);
        Due.items(x, 0, down);
        Due.is("copy none at the ends", x.copy(0, 5, 1, 3, 0), 0);
    }

    private static void copiesAreRefused() {
        JarNotes x = Due.cellarOf(Due.SCALE);
        Due.fill(x, 0, 0, 1, 2, 3);
        Due.fill(x, 1, 0, 4, 5);
        x.row(2, 1, 3);
        Due.is("no row a", x.copy(8, 0, 0, 0, 1), Due.BAD);
        Due.is("no row b", x.copy(0, 0, -1, 0, 1), Due.BAD);
        Due.is("BAD goes ahead of NULL", x.copy(5, 0, 8, 0, 1), Due.BAD);
        Due.is("a is missing", x.copy(5, 0, 0, 0, 1), Due.NULL);
        Due.is("b is missing", x.copy(0, 0, 5, 0, 1), Due.NULL);
        Due.is("NULL goes ahead of PLACE", x.copy(0, -1, 5, 0, -1), Due.NULL);
        Due.is("two lanes", x.copy(0, 0, 2, 0, 1), Due.STORE);
        Due.is("two lanes, none", x.copy(0, 0, 2, 0, 0), Due.STORE);
        Due.is("STORE goes ahead of PLACE", x.copy(0, -1, 2, 9, -1), Due.STORE);
        int max = Integer.MAX_VALUE;
        int min = Integer.MIN_VALUE;
        int[][] beyond = {
            {-1, 0, 1}, {0, -1, 1}, {0, 0, -1}, {3, 0, 1}, {2, 0, 2}, {0, 2, 1}, {0, 1, 2}, {0, 0, 3},
            {4, 0, 0}, {0, 3, 0}, {max, 0, 1}, {0, max, 1}, {0, 0, max}, {1, 0, max}, {max, max, max},
            {min, 0, 0}, {0, min, 0}, {0, 0, min}, {1, 1, min},
        };
        for (int[] b : beyond) {
            Due.is("copy(0, " + b[0] + ", 1, " + b[1] + ", " + b[2] + ")", x.copy(0, b[0], 1, b[1], b[2]), Due.PLACE);
        }
        Due.items(x, 0, new int[] {1, 2, 3});
        Due.items(x, 1, new int[] {4, 5});
    }

    private static void rowsAreDropped() {
        JarNotes x = new JarNotes();
        x.row(0, 0, 5);
        x.row(7, 2, 0);
        Due.is("drop(0)", x.drop(0), 5);
        Due.is("one row left", x.count(0), 1);
        Due.is("drop(0) again", x.drop(0), Due.NULL);
        Due.is("it is missing", x.set(0, 0, 0), Due.NULL);
        Due.is("drop(7), empty", x.drop(7), 0);
        Due.is("none left", x.count(0), 0);
        Due.is("drop(8)", x.drop(8), Due.BAD);
        Due.is("drop(-1)", x.drop(-1), Due.BAD);
        Due.is("it can be laid anew", x.row(0, 1, 2), 2);
        Due.is("and set", x.set(0, 1, 300), 300);
    }

    private static void statusTellsTheLatest() {
        JarNotes x = new JarNotes();
        x.drop(0);
        Due.is("NULL is 1", x.status(), 1);
        Due.is("asked again", x.status(), 1);
        x.row(8, 0, 0);
        x.set(9, 0, 0);
        x.copy(9, 0, 0, 0, 0);
        x.drop(9);
        x.song(0, 0, 0, 1);
        x.who(0, 0, 0, 0, 0, 1);
        x.reaches(0, 0, 0, 1);
        x.as(0, 0);
        Due.is("BAD and STATE leave it", x.status(), 1);
        x.row(0, 0, 2);
        Due.is("none", x.status(), 0);
        x.set(0, 2, 0);
        Due.is("PLACE is 2", x.status(), 2);
        x.feed('k');
        x.count(0);
        x.cellar();
        x.stand(0);
        Due.is("calls without a row leave it", x.status(), 2);
        x.set(0, 1, 12);
        Due.is("set: none", x.status(), 0);
        x.row(1, 0, -1);
        Due.is("SIZE is 4", x.status(), 4);
        x.copy(0, 0, 0, 0, 1);
        Due.is("copy: none", x.status(), 0);
        x.row(1, 1, 2);
        x.copy(0, 0, 1, 0, 1);
        Due.is("STORE is 5", x.status(), 5);
        x.drop(1);
        Due.is("drop: none", x.status(), 0);
        Due.read(x, "k1;g0,1;");
        x.as(0, 4);
        Due.is("as: KIND is 3", x.status(), 3);
        x.as(0, 6);
        Due.is("as: BAD leaves it", x.status(), 3);
        x.as(0, 1);
        Due.is("as: none", x.status(), 0);
        x.song(0, 0, 0, 2);
        Due.is("song: KIND is 3", x.status(), 3);
        x.song(0, 0, 0, 1);
        Due.is("song: none", x.status(), 0);
        x.who(0, 0, 0, 4, 0, 1);
        Due.is("who: NULL is 1", x.status(), 1);
        x.who(0, 0, 0, 0, 0, 1);
        Due.is("who: none", x.status(), 0);
        x.reaches(0, 0, 2, 1);
        Due.is("reaches: PLACE is 2", x.status(), 2);
        x.reaches(0, 0, 0, 1);
        Due.is("reaches: none", x.status(), 0);
    }

    // "An object is used for at most 512 calls after it has been made"
    private static void theLastCallIsAnswered() {
        JarNotes x = new JarNotes();
        Due.read(x, "k0;g0,9;");
        int calls = 9;
        while (calls < 511) {
            x.open(0);
            x.undo();
            calls += 2;
        }
        Due.is("the 511 calls", calls, 511);
        Due.is("the 512th call", x.sneeze(0, 0), 1);
    }
}
