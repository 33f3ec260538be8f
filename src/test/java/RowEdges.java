/** Sentences of ROWS: part 1 of the Terms, promises 1 to 5 and 39. */
final class RowEdges {
    private static final int[] BEYOND = {-1, 8, Due.MIN, Due.MAX};

    private RowEdges() {
    }

    // ---- Terms

    @Says(words = "ROWS 0 .. 7 are missing (at first)")
    static void rowsAreMissingAtFirst() {
        JarNotes x = new JarNotes();
        for (int row = 0; row <= 7; row++) {
            Due.is("set(" + row + ")", x.set(row, 0, 0), Due.NULL);
            Due.is("drop(" + row + ")", x.drop(row), Due.NULL);
        }
        Due.is("no row", x.count(0), 0);
        for (int row : BEYOND) {
            Due.is("there is no ROW " + row, x.drop(row), Due.BAD);
        }
    }

    @Says(words = "or have a LANE (0 bytes, 1 shorts, 2 ints)")
    static void lanes() {
        JarNotes x = new JarNotes();
        int[] most = {127, 32767, Due.MAX};
        int[] least = {-128, -32768, Due.MIN};
        for (int lane = 0; lane <= 2; lane++) {
            Due.is("row of lane " + lane, x.row(lane, lane, 1), 1);
            Due.is("the most of lane " + lane, x.set(lane, 0, most[lane]), most[lane]);
            Due.is("one more wraps around", x.set(lane, 0, most[lane] + 1), least[lane]);
        }
        Due.is("no lane 3", x.row(3, 3, 1), Due.BAD);
        Due.is("no lane -1", x.row(3, -1, 1), Due.BAD);
    }

    @Says(words = "and 0 to 40 ITEMS")
    static void noughtToFortyItems() {
        JarNotes x = new JarNotes();
        Due.is("no items", x.row(0, 0, 0), 0);
        Due.is("it is there", x.count(0), 1);
        Due.is("it has no item 0", x.set(0, 0, 1), Due.PLACE);
        Due.is("40 items", x.row(0, 0, 40), 40);
        Due.is("item 39", x.set(0, 39, 1), 1);
        Due.is("no item 40", x.set(0, 40, 1), Due.PLACE);
        Due.is("41 items", x.row(0, 0, 41), Due.BAD);
        Due.is("40 stay", x.drop(0), 40);
    }

    @Says(words = "ITEMS, 0 at first.")
    static void itemsAreNoughtAtFirst() {
        for (int lane = 0; lane <= 2; lane++) {
            JarNotes x = Due.cellarOf(Due.SCALE);
            x.row(0, lane, 40);
            for (int i = 0; i < 40; i++) {
                Due.is("item " + i + " of lane " + lane, x.song(0, 0, i, 1), 1);
            }
        }
    }

    // ---- Promise 1

    @Says(promise = 1, words = "No CELLAR.")
    static void aNewObjectHasNoCellar() {
        JarNotes x = new JarNotes();
        Due.is("stand", x.stand(0), Due.STATE);
        Due.is("image", x.image(0), Due.STATE);
        Due.is("no jar", x.jar(0, 0), Due.BAD);
        Due.is("no place", x.sneeze(0, 0), Due.BAD);
        for (int what = 0; what <= 7; what++) {
            Due.is("count(" + what + ")", x.count(what), 0);
        }
    }

    // ---- Promise 2

    @Says(promise = 2, words = "A ROW of a LANE with n ITEMS")
    @Says(promise = 2, words = ": n.")
    static void aRowIsLaid() {
        JarNotes x = new JarNotes();
        for (int row = 0; row <= 7; row++) {
            Due.is("row(" + row + ")", x.row(row, row % 3, row * 5), row * 5);
            Due.is("rows", x.count(0), row + 1);
        }
        for (int row = 0; row <= 7; row++) {
            Due.is("row " + row + " has its items", x.drop(row), row * 5);
        }
    }

    @Says(promise = 2, words = "in place of what is there")
    static void aRowInPlaceOfAnother() {
        JarNotes x = Due.cellarOf(Due.SCALE);
        Due.fill(x, 0, 2, 5, 6, 7);
        Due.is("the same again", x.row(0, 0, 3), 3);
        Due.items(x, 0, 0, 0, 0);
        Due.is("of the new lane", x.set(0, 0, 128), -128);
        Due.is("smaller", x.row(0, 0, 1), 1);
        Due.is("of the new size", x.set(0, 1, 1), Due.PLACE);
        Due.is("larger", x.row(0, 0, 3), 3);
        Due.items(x, 0, 0, 0, 0);
        Due.is("it is one row", x.count(0), 1);
        Due.fill(x, 1, 0, 4, 4);
        x.drop(1);
        x.row(1, 0, 2);
        Due.items(x, 1, 0, 0);
    }

    @Says(promise = 2, words = "BAD: ROW")
    static void noSuchRowToLay() {
        JarNotes x = new JarNotes();
        for (int row : BEYOND) {
            Due.is("row(" + row + ")", x.row(row, 0, 1), Due.BAD);
            Due.is("row(" + row + "), fewer than none", x.row(row, 0, -1), Due.BAD);
        }
        Due.is("row 0", x.row(0, 0, 1), 1);
        Due.is("row 7", x.row(7, 0, 1), 1);
        Due.is("two rows", x.count(0), 2);
    }

    @Says(promise = 2, words = "LANE, n above")
    static void noSuchLane() {
        JarNotes x = new JarNotes();
        for (int lane : new int[] {-1, 3, Due.MIN, Due.MAX}) {
            Due.is("lane " + lane, x.row(0, lane, 1), Due.BAD);
            Due.is("lane " + lane + ", fewer than none", x.row(0, lane, -1), Due.BAD);
        }
        Due.is("no row", x.count(0), 0);
    }

    @Says(promise = 2, words = "n above 40;")
    static void moreThanFortyItems() {
        JarNotes x = new JarNotes();
        Due.is("41", x.row(0, 0, 41), Due.BAD);
        Due.is("the most", x.row(0, 0, Due.MAX), Due.BAD);
        Due.is("no row", x.count(0), 0);
        Due.is("40", x.row(0, 0, 40), 40);
    }

    @Says(promise = 2, words = "SIZE.")
    static void fewerThanNone() {
        JarNotes x = new JarNotes();
        Due.is("-1", x.row(0, 0, -1), Due.SIZE);
        Due.is("the least", x.row(7, 2, Due.MIN), Due.SIZE);
        Due.is("no row", x.count(0), 0);
        Due.is("0", x.row(0, 0, 0), 0);
    }

    // ---- Promise 3

    @Says(promise = 3, words = "ITEM i becomes v")
    static void anItemIsSet() {
        JarNotes x = Due.cellarOf(Due.SCALE);
        for (int lane = 0; lane <= 2; lane++) {
            x.row(0, lane, 40);
            Due.is("the first", x.set(0, 0, 5), 5);
            Due.is("the last", x.set(0, 39, 7), 7);
            Due.is("the first is so", x.song(0, 0, 0, 1), 32);
            Due.is("its neighbour is not", x.song(0, 0, 1, 1), 1);
            Due.is("nor that of the last", x.song(0, 0, 38, 1), 1);
            Due.is("the last is so", x.song(0, 0, 39, 1), 128);
        }
    }

    @Says(promise = 3, words = "its lowest bits, as many as the LANE has: what it is then.")
    static void anItemWrapsAround() {
        JarNotes x = new JarNotes();
        int[][] sets = {
            {0, 127, 127}, {0, 128, -128}, {0, 255, -1}, {0, 256, 0}, {0, 257, 1}, {0, -128, -128}, {0, -129, 127},
            {0, Due.MAX, -1}, {0, Due.MIN, 0}, {1, 32767, 32767}, {1, 32768, -32768}, {1, 65535, -1}, {1, 65536, 0},
            {1, -32768, -32768}, {1, -32769, 32767}, {1, 128, 128}, {1, Due.MAX, -1}, {1, Due.MIN, 0},
            {2, 65536, 65536}, {2, Due.MAX, Due.MAX}, {2, Due.MIN, Due.MIN},
        };
        for (int[] s : sets) {
            x.row(s[0], s[0], 1);
            Due.is("lane " + s[0] + ", " + s[1], x.set(s[0], 0, s[1]), s[2]);
        }
    }

    @Says(promise = 3, words = "what it is then.")
    static void whatIsKeptIsWhatWasTold() {
        JarNotes x = Due.cellarOf(Due.SCALE);
        x.row(0, 0, 1);
        Due.is("256 and 3", x.set(0, 0, 259), 3);
        Due.items(x, 0, 3);
        x.row(1, 1, 1);
        Due.is("65536 and 4", x.set(1, 0, 65540), 4);
        Due.items(x, 1, 4);
        x.row(2, 2, 1);
        x.set(2, 0, 259);
        Due.is("259 is no note", x.song(0, 2, 0, 1), Due.KIND);
    }

    @Says(promise = 3, words = "BAD: ROW;")
    static void noSuchRowToSet() {
        JarNotes x = new JarNotes();
        for (int row : BEYOND) {
            Due.is("set(" + row + ")", x.set(row, 0, 1), Due.BAD);
        }
    }

    @Says(promise = 3, words = "NULL;")
    static void aMissingRowToSet() {
        JarNotes x = new JarNotes();
        Due.is("missing", x.set(0, 0, 1), Due.NULL);
        Due.is("ahead of PLACE", x.set(0, -1, 1), Due.NULL);
        x.row(0, 0, 1);
        x.drop(0);
        Due.is("dropped", x.set(0, 0, 1), Due.NULL);
    }

    @Says(promise = 3, words = "PLACE.")
    static void noSuchPlaceToSet() {
        JarNotes x = Due.cellarOf(Due.SCALE);
        Due.fill(x, 0, 0, 2, 3);
        for (int i : new int[] {-1, 2, 40, Due.MIN, Due.MAX}) {
            Due.is("item " + i, x.set(0, i, 7), Due.PLACE);
        }
        Due.items(x, 0, 2, 3);
        x.row(1, 0, 0);
        Due.is("an empty row", x.set(1, 0, 0), Due.PLACE);
    }

    // ---- Promise 4

    @Says(promise = 4, words = "n ITEMS of a from i on come to b from j on")
    @Says(promise = 4, words = "ahead: n.")
    static void itemsAreCopied() {
        JarNotes x = Due.cellarOf(Due.SCALE);
        Due.fill(x, 0, 1, 1, 2, 3);
        x.row(1, 1, 4);
        Due.is("two", x.copy(0, 1, 1, 2, 2), 2);
        Due.items(x, 1, 0, 0, 2, 3);
        Due.items(x, 0, 1, 2, 3);
        Due.is("all", x.copy(0, 0, 1, 0, 3), 3);
        Due.items(x, 1, 1, 2, 3, 3);
        x.row(2, 0, 40);
        x.row(3, 0, 40);
        x.set(2, 39, 6);
        Due.is("all 40", x.copy(2, 0, 3, 0, 40), 40);
        Due.is("the last of them", x.song(0, 3, 39, 1), 64);
    }

    @Says(promise = 4, words = "as they were ahead")
    static void itemsAreCopiedAsTheyWere() {
        JarNotes x = Due.cellarOf(Due.SCALE);
        Due.fill(x, 0, 0, 1, 2, 3, 4, 5);
        Due.is("upwards, over themselves", x.copy(0, 0, 0, 1, 4), 4);
        Due.items(x, 0, 1, 1, 2, 3, 4);
        Due.fill(x, 0, 0, 1, 2, 3, 4, 5);
        Due.is("downwards, over themselves", x.copy(0, 1, 0, 0, 4), 4);
        Due.items(x, 0, 2, 3, 4, 5, 5);
        Due.is("on to themselves", x.copy(0, 0, 0, 0, 5), 5);
        Due.items(x, 0, 2, 3, 4, 5, 5);
    }

    @Says(promise = 4, words = "BAD: ROWS;")
    static void noSuchRowsToCopy() {
        JarNotes x = new JarNotes();
        x.row(0, 0, 1);
        for (int row : BEYOND) {
            Due.is("a " + row, x.copy(row, 0, 0, 0, 1), Due.BAD);
            Due.is("b " + row, x.copy(0, 0, row, 0, 1), Due.BAD);
            Due.is("b " + row + ", a missing", x.copy(5, 0, row, 0, 1), Due.BAD);
            Due.is("a " + row + ", b missing", x.copy(row, 0, 5, 0, 1), Due.BAD);
        }
    }

    @Says(promise = 4, words = "NULL;")
    static void missingRowsToCopy() {
        JarNotes x = new JarNotes();
        x.row(0, 0, 1);
        Due.is("a", x.copy(1, 0, 0, 0, 1), Due.NULL);
        Due.is("b", x.copy(0, 0, 1, 0, 1), Due.NULL);
        Due.is("both", x.copy(1, 0, 2, 0, 1), Due.NULL);
        Due.is("none of it", x.copy(1, 0, 1, 0, 0), Due.NULL);
        Due.is("ahead of PLACE", x.copy(0, -1, 1, -1, -1), Due.NULL);
        x.row(2, 2, 1);
        x.drop(2);
        Due.is("ahead of STORE: dropped, of another lane", x.copy(0, 0, 2, 0, 1), Due.NULL);
    }

    @Says(promise = 4, words = "STORE;")
    static void rowsOfTwoLanes() {
        JarNotes x = new JarNotes();
        for (int lane = 0; lane <= 2; lane++) {
            x.row(lane, lane, 3);
        }
        for (int a = 0; a <= 2; a++) {
            for (int b = 0; b <= 2; b++) {
                Due.is("lane " + a + " to " + b, x.copy(a, 0, b, 0, 1), a == b ? 1 : Due.STORE);
                Due.is("none of it", x.copy(a, 0, b, 0, 0), a == b ? 0 : Due.STORE);
            }
        }
        Due.is("ahead of PLACE", x.copy(0, -1, 1, 9, -1), Due.STORE);
    }

    @Says(promise = 4, words = "PLACE (i, j, n below 0,")
    static void copiesBelowNought() {
        JarNotes x = Due.cellarOf(Due.SCALE);
        Due.fill(x, 0, 0, 1, 2, 3);
        Due.fill(x, 1, 0, 4, 5, 6);
        int[][] below = {{-1, 0, 1}, {0, -1, 1}, {0, 0, -1}, {-1, 0, 0}, {0, -1, 0}, {1, 1, -1}, {Due.MIN, 0, 1},
            {0, Due.MIN, 1}, {0, 0, Due.MIN}, {3, 3, Due.MIN}};
        for (int[] b : below) {
            Due.is("copy of " + b[2] + " from " + b[0] + " to " + b[1], x.copy(0, b[0], 1, b[1], b[2]), Due.PLACE);
        }
        Due.items(x, 1, 4, 5, 6);
    }

    @Says(promise = 4, words = "or beyond an end).")
    static void copiesBeyondAnEnd() {
        JarNotes x = Due.cellarOf(Due.SCALE);
        Due.fill(x, 0, 0, 1, 2, 3);
        Due.fill(x, 1, 0, 4, 5);
        Due.is("none at both ends", x.copy(0, 3, 1, 2, 0), 0);
        Due.is("up to both ends", x.copy(0, 2, 1, 1, 1), 1);
        Due.items(x, 1, 4, 3);
        int[][] beyond = {{4, 0, 0}, {0, 3, 0}, {3, 0, 1}, {2, 0, 2}, {0, 2, 1}, {0, 1, 2}, {0, 0, 3}, {0, 0, 4},
            {Due.MAX, 0, 1}, {0, Due.MAX, 1}, {0, 0, Due.MAX}, {1, 1, Due.MAX}, {Due.MAX, Due.MAX, Due.MAX}};
        for (int[] b : beyond) {
            Due.is("copy of " + b[2] + " from " + b[0] + " to " + b[1], x.copy(0, b[0], 1, b[1], b[2]), Due.PLACE);
        }
        Due.items(x, 1, 4, 3);
    }

    // ---- Promise 5

    @Says(promise = 5, words = "A ROW is missing from now on: how many ITEMS it had.")
    static void aRowIsDropped() {
        JarNotes x = new JarNotes();
        x.row(0, 0, 0);
        x.row(7, 2, 40);
        Due.is("an empty one", x.drop(0), 0);
        Due.is("a full one", x.drop(7), 40);
        Due.is("no row", x.count(0), 0);
        Due.is("missing", x.set(7, 0, 1), Due.NULL);
        Due.is("laid anew", x.row(7, 0, 1), 1);
        Due.is("there again", x.set(7, 0, 1), 1);
    }

    @Says(promise = 5, words = "BAD;")
    static void noSuchRowToDrop() {
        JarNotes x = new JarNotes();
        x.row(0, 0, 1);
        x.row(7, 0, 1);
        for (int row : BEYOND) {
            Due.is("drop(" + row + ")", x.drop(row), Due.BAD);
        }
        Due.is("two rows", x.count(0), 2);
    }

    @Says(promise = 5, words = "NULL.")
    static void aMissingRowToDrop() {
        JarNotes x = new JarNotes();
        Due.is("at first", x.drop(0), Due.NULL);
        x.row(0, 0, 1);
        x.drop(0);
        Due.is("twice", x.drop(0), Due.NULL);
        Due.is("status", x.status(), 1);
    }

    // ---- Promise 39

    @Says(promise = 39, words = "0: it had none, or there was none.")
    static void noStatusYet() {
        JarNotes x = new JarNotes();
        Due.is("no call yet", x.status(), 0);
        x.drop(8);
        x.song(0, 0, 0, 1);
        Due.is("only BAD and STATE", x.status(), 0);
        x.drop(0);
        Due.is("a finding", x.status(), 1);
        x.row(0, 0, 0);
        Due.is("then none", x.status(), 0);
    }

    @Says(promise = 39, words = "Of the latest call with a ROW,")
    @Says(promise = 39, words = ": the number of its FINDING;")
    static void statusOfEachCallWithARow() {
        JarNotes x = Due.cellarOf("k0;g0,9;");
        x.row(0, 0, 2);
        x.row(1, 1, 2);
        x.set(0, 1, 12);
        long[][] calls = {
            {x.row(2, 0, -1), x.status(), 4}, {x.row(2, 0, 1), x.status(), 0},
            {x.set(3, 0, 0), x.status(), 1}, {x.set(0, 0, 0), x.status(), 0}, {x.set(0, 2, 0), x.status(), 2},
            {x.copy(0, 0, 2, 0, 1), x.status(), 0}, {x.copy(0, 0, 3, 0, 1), x.status(), 1},
            {x.copy(0, 0, 1, 0, 1), x.status(), 5}, {x.copy(0, 0, 2, 1, 1), x.status(), 2},
            {x.drop(2), x.status(), 0}, {x.drop(2), x.status(), 1},
            {x.song(0, 0, 0, 1), x.status(), 0}, {x.song(0, 3, 0, 1), x.status(), 1},
            {x.song(0, 0, 2, 1), x.status(), 2}, {x.song(0, 0, 1, 1), x.status(), 3},
            {x.who(0, 0, 0, 0, 0, 1), x.status(), 0}, {x.who(0, 0, 0, 3, 0, 1), x.status(), 1},
            {x.who(0, 1, 0, 0, 0, 1), x.status(), 0}, {x.who(0, 1, 0, 0, 2, 1), x.status(), 2},
            {x.reaches(0, 0, 0, 1), x.status(), 0}, {x.reaches(0, 3, 0, 1), x.status(), 1},
            {x.reaches(0, 0, 2, 1), x.status(), 2},
        };
        for (int n = 0; n < calls.length; n++) {
            Due.is("status behind call " + n, calls[n][1], calls[n][2]);
            if (calls[n][2] != 0) {
                Due.is("what call " + n + " answered", calls[n][0], -1000010 - calls[n][2]);
            } else {
                Due.holds("call " + n + " was not refused", calls[n][0] >= 0);
            }
        }
    }

    @Says(promise = 39, words = "Of the latest call with a ROW")
    static void otherCallsLeaveStatus() {
        JarNotes x = Due.cellarOf("k0;g0,9;g1,9;");
        x.drop(0);
        x.feed('k');
        x.cellar();
        x.fault();
        x.years(1);
        x.sneeze(0, 0);
        x.open(1);
        x.change(0, 1);
        x.seal(0, 0, 9);
        x.reach(1);
        x.undo();
        x.jar(0, 0);
        x.stand(0);
        x.chain(0, 0, 0);
        x.worst(0);
        x.when(0);
        x.kept(0);
        x.guard(0, 0, 0, 0);
        x.changes(0);
        x.tuned(0, 0);
        x.spared(0);
        x.alike(0);
        x.mould(0, 0, 0, 0, 0);
        x.drawn(1, 1, 0);
        x.image(0);
        x.restore(0);
        x.kind(0);
        x.ask(0, 0);
        x.trace(0);
        x.count(0);
        Due.is("the finding of drop", x.status(), 1);
        Due.is("asked again", x.status(), 1);
    }

    @Says(promise = 39, words = "or as(),")
    static void statusOfAs() {
        JarNotes x = Due.cellarOf("k0;g0,9;");
        Due.is("not thin", x.as(0, 2), Due.KIND);
        Due.is("KIND", x.status(), 3);
        Due.is("glass", x.as(0, 1), 0);
        Due.is("none", x.status(), 0);
    }

    @Says(promise = 39, words = "that was not BAD, STATE, FULL")
    static void refusalsLeaveStatus() {
        JarNotes x = new JarNotes();
        x.row(0, 0, -1);
        x.song(0, 0, 0, 1);
        Due.is("STATE of song", x.status(), 4);
        Due.read(x, "k0;g0,9;");
        x.row(8, 0, 1);
        x.row(0, 3, 1);
        x.row(0, 0, 41);
        x.set(8, 0, 1);
        x.copy(8, 0, 0, 0, 1);
        x.drop(8);
        x.song(2, 0, 0, 1);
        x.song(0, 0, 0, 13);
        x.who(1, 0, 0, 0, 0, 1);
        x.reaches(1, 0, 0, 1);
        x.as(0, 6);
        x.as(1, 0);
        Due.is("BAD of each", x.status(), 4);
        for (int n = 0; n <= 90; n++) {
            x.feed('k');
        }
        Due.is("FULL of feed", x.status(), 4);
    }
}
