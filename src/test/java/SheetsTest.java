/** Promises 21 to 25: sheet, drop, item, lay, copy. */
public final class SheetsTest {
    private static final int LEAST = Integer.MIN_VALUE;
    private static final int MOST = Integer.MAX_VALUE;

    public static void main(String[] args) {
        sheet();
        sheetIsNew();
        drop();
        itemOrder();
        itemKeepsTheLowestBits();
        layColours();
        layOfNone();
        layOrder();
        layChangesAllOrNothing();
        copyOrder();
        copyMoves();
        copyAsIfTakenAhead();
        Due.end();
    }

    private static void sheet() {
        AntFloor x = new AntFloor();
        for (int s = 0; s < 4; s++) {
            for (int lane = 0; lane < 3; lane++) {
                Due.is("sheet(" + s + ", " + lane + ", 0)", x.sheet(s, lane, 0), 0);
                Due.is("sheet(" + s + ", " + lane + ", 60)", x.sheet(s, lane, 60), 60);
                Due.is("sheet(" + s + ", " + lane + ", 61)", x.sheet(s, lane, 61), AntFloor.BAD);
                Due.is("sheet(" + s + ", " + lane + ", -1)", x.sheet(s, lane, -1), AntFloor.SIZE);
                Due.is("it holds what it held", x.drop(s), 60);
            }
        }
        int[][] wrong = {{-1, 0, 1}, {4, 0, 1}, {0, -1, 1}, {0, 3, 1}, {0, 0, MOST}, {LEAST, 0, 1}, {0, MOST, 1}, {4, 0, -1}, {0, 3, -1}};
        for (int[] w : wrong) {
            Due.is("sheet(" + w[0] + ", " + w[1] + ", " + w[2] + ")", x.sheet(w[0], w[1], w[2]), AntFloor.BAD);
        }
        Due.is("sheet(0, 0, least)", x.sheet(0, 0, LEAST), AntFloor.SIZE);
        Due.is("nothing is held", x.drop(0), AntFloor.NULL);
    }

    private static void sheetIsNew() {
        AntFloor x = new AntFloor();
        x.floor(0, 12);
        x.sheet(1, 0, 4);
        for (int i = 0; i < 4; i++) {
            x.item(1, 0, i, i + 1);
        }
        x.sheet(1, 0, 4);
        x.paint(0, 0, 5);
        Due.is("lay", x.lay(1, 0, 0, 4, 0, 0), 4);
        Due.is("a new row is 0", x.count(1), 0);
        x.item(1, 0, 3, 9);
        x.sheet(1, 2, 2);
        Due.is("another lane", x.item(1, 0, 0, 1), AntFloor.CAST);
        Due.is("another length", x.item(1, 2, 2, 1), AntFloor.INDEX);
        Due.is("its last", x.item(1, 2, 1, 1), 1);
    }

    private static void drop() {
        AntFloor x = new AntFloor();
        x.sheet(0, 0, 0);
        x.sheet(3, 2, 17);
        Due.is("drop(0) of no items", x.drop(0), 0);
        Due.is("drop(0) again", x.drop(0), AntFloor.NULL);
        Due.is("drop(3)", x.drop(3), 17);
        Due.is("item of nothing", x.item(3, 2, 0, 0), AntFloor.NULL);
        for (int s : new int[] {-1, 4, LEAST, MOST}) {
            Due.is("drop(" + s + ")", x.drop(s), AntFloor.BAD);
        }
    }

    private static void itemOrder() {
        AntFloor x = new AntFloor();
        x.sheet(0, 0, 3);
        x.sheet(1, 1, 3);
        x.sheet(2, 2, 3);
        int[][] due = {
            {-1, 0, 0, AntFloor.BAD}, {4, 0, 0, AntFloor.BAD}, {0, -1, 0, AntFloor.BAD}, {0, 3, 0, AntFloor.BAD},
            {3, 3, 0, AntFloor.BAD}, {3, 0, 99, AntFloor.NULL}, {3, 2, 0, AntFloor.NULL},
            {0, 1, 99, AntFloor.CAST}, {0, 2, 0, AntFloor.CAST}, {1, 0, 0, AntFloor.CAST}, {1, 2, 0, AntFloor.CAST},
            {2, 0, -1, AntFloor.CAST}, {2, 1, 0, AntFloor.CAST},
            {0, 0, 3, AntFloor.INDEX}, {1, 1, -1, AntFloor.INDEX}, {2, 2, MOST, AntFloor.INDEX}, {2, 2, LEAST, AntFloor.INDEX},
            {0, 0, 0, 1}, {0, 0, 2, 1}, {1, 1, 2, 1}, {2, 2, 2, 1}};
        for (int[] d : due) {
            Due.is("item(" + d[0] + ", " + d[1] + ", " + d[2] + ", 1)", x.item(d[0], d[1], d[2], 1), d[3]);
        }
    }

    private static void itemKeepsTheLowestBits() {
        int[][] due = {
            // lane, value, the colour that it is (or BAD, if it is none of 12)
            {0, 256, 0}, {0, 256 + 11, 11}, {0, 65536 + 3, 3}, {0, LEAST, 0}, {0, -256 + 7, 7}, {0, 255, -1}, {0, -1, -1}, {0, 12, -1},
            {1, 65536, 0}, {1, 65536 + 11, 11}, {1, -65536 + 4, 4}, {1, 256, -1}, {1, LEAST, 0}, {1, 65535, -1}, {1, 32768, -1},
            {2, 65536, -1}, {2, 256, -1}, {2, 11, 11}, {2, LEAST, -1}, {2, MOST, -1}, {2, -1, -1}, {2, 12, -1}};
        for (int[] d : due) {
            AntFloor x = new AntFloor();
            x.floor(0, 12);
            x.paint(0, 0, 1);
            x.sheet(0, d[0], 1);
            x.item(0, d[0], 0, d[1]);
            String call = "lay of " + d[1] + " in lane " + d[0];
            Due.is(call, x.lay(0, d[0], 0, 1, 0, 0), d[2] < 0 ? AntFloor.BAD : 1);
            Due.is(call + " colours", x.colour(0, 0), d[2] < 0 ? 1 : d[2]);
        }
    }

    /** A sheet of lane `lane` with items 1, 2, .. n. */
    private static void fill(AntFloor x, int sheet, int lane, int n) {
        x.sheet(sheet, lane, n);
        for (int i = 0; i < n; i++) {
            x.item(sheet, lane, i, i + 1);
        }
    }

    private static void layColours() {
        for (int lane = 0; lane < 3; lane++) {
            AntFloor x = new AntFloor();
            x.floor(1, 12);
            fill(x, 2, lane, 9);
            Due.is("lay", x.lay(2, lane, 3, 4, -50, 60), 4);
            int[] due = {0, 4, 5, 6, 7, 0};
            for (int k = 0; k < 6; k++) {
                Due.is("laid at " + k, x.colour(-51 + k, 60), due[k]);
            }
            Due.is("no other", x.count(1), 4);
            Due.is("no visits", x.count(3), 0);
            Due.is("up to the right edge", x.lay(2, lane, 0, 9, 111, 119), 9);
            Due.is("the last", x.colour(119, 119), 9);
            Due.is("a row of its own", x.colour(-120, 119), 0);
            Due.is("from the left edge", x.lay(2, lane, 8, 1, -120, -120), 1);
            Due.is("the first", x.colour(-120, -120), 9);
        }
    }

    private static void layOfNone() {
        AntFloor x = new AntFloor();
        x.sheet(0, 0, 3);
        x.sheet(1, 0, 0);
        Due.is("none, beyond the floor", x.lay(0, 0, 0, 0, 500, 500), 0);
        Due.is("none of no items", x.lay(1, 0, 0, 0, 0, 0), 0);
        Due.is("none from the end on", x.lay(0, 0, 3, 0, 0, 0), 0);
        Due.is("none from the end on, beyond the floor", x.lay(0, 0, 3, 0, LEAST, MOST), 0);
        int[] beyond = {4, 60, 61, MOST, -1, LEAST};
        for (int from : beyond) {
            Due.is("none from " + from + " of 3", x.lay(0, 0, from, 0, 0, 0), AntFloor.INDEX);
            Due.is("none from " + from + " of 0", x.lay(1, 0, from, 0, 500, 500), AntFloor.INDEX);
            Due.is("none from " + from + " of nothing", x.lay(2, 0, from, 0, 0, 0), AntFloor.NULL);
            Due.is("none from " + from + " of another lane", x.lay(0, 1, from, 0, 0, 0), AntFloor.CAST);
        }
        Due.is("none from 1 of 0", x.lay(1, 0, 1, 0, 0, 0), AntFloor.INDEX);
        Due.is("none of nothing", x.lay(2, 0, 0, 0, 0, 0), AntFloor.NULL);
        Due.is("none of another lane", x.lay(0, 1, 0, 0, 0, 0), AntFloor.CAST);
        Due.is("nothing is laid", x.count(1), 0);
    }

    private static void layOrder() {
        AntFloor x = new AntFloor();
        x.floor(0, 4);
        fill(x, 0, 0, 5);
        int[][] due = {
            // sheet, lane, from, n, x, y
            {-1, 0, 0, 1, 0, 0, AntFloor.BAD}, {4, 0, 0, -1, 0, 0, AntFloor.BAD}, {0, 3, 0, 1, 0, 0, AntFloor.BAD},
            {0, -1, 0, 1, 0, 0, AntFloor.BAD}, {1, 3, 0, 1, 0, 0, AntFloor.BAD},
            {1, 0, 0, 1, 500, 0, AntFloor.NULL}, {1, 0, 99, -1, 500, 0, AntFloor.NULL},
            {0, 1, 99, -1, 500, 0, AntFloor.CAST}, {0, 2, 0, 1, 0, 0, AntFloor.CAST},
            {0, 0, 99, -1, 500, 0, AntFloor.SIZE}, {0, 0, 0, LEAST, 0, 0, AntFloor.SIZE},
            {0, 0, -1, 1, 500, 0, AntFloor.INDEX}, {0, 0, 5, 1, 0, 0, AntFloor.INDEX}, {0, 0, 0, 6, 0, 0, AntFloor.INDEX},
            {0, 0, 3, 3, 119, 0, AntFloor.INDEX}, {0, 0, 0, MOST, 0, 0, AntFloor.INDEX}, {0, 0, MOST, MOST, 0, 0, AntFloor.INDEX},
            {0, 0, MOST, 1, 0, 0, AntFloor.INDEX}, {0, 0, LEAST, 1, 0, 0, AntFloor.INDEX},
            {0, 0, 0, 1, 120, 0, AntFloor.BAD}, {0, 0, 0, 1, -121, 0, AntFloor.BAD}, {0, 0, 0, 1, 0, 120, AntFloor.BAD},
            {0, 0, 0, 1, 0, -121, AntFloor.BAD}, {0, 0, 0, 2, 119, 0, AntFloor.BAD}, {0, 0, 0, 2, -121, 0, AntFloor.BAD},
            {0, 0, 0, 3, MOST, 0, AntFloor.BAD}, {0, 0, 0, 3, MOST - 1, 0, AntFloor.BAD}, {0, 0, 0, 1, LEAST, LEAST, AntFloor.BAD},
            {0, 0, 3, 1, 0, 0, AntFloor.BAD}, {0, 0, 2, 2, 0, 0, AntFloor.BAD}, {0, 0, 2, 1, 0, 0, 1}};
        for (int[] d : due) {
            Due.is("lay(" + d[0] + ", " + d[1] + ", " + d[2] + ", " + d[3] + ", " + d[4] + ", " + d[5] + ")",
                x.lay(d[0], d[1], d[2], d[3], d[4], d[5]), d[6]);
        }
        Due.is("one cell is laid", x.count(1), 1);
    }

    private static void layChangesAllOrNothing() {
        AntFloor x = new AntFloor();
        x.floor(0, 4);
        fill(x, 0, 0, 4);
        Due.is("the last is no colour", x.lay(0, 0, 0, 4, 0, 0), AntFloor.BAD);
        Due.is("nothing is laid", x.count(1), 0);
        Due.is("the last is beyond the floor", x.lay(0, 0, 0, 3, 118, 0), AntFloor.BAD);
        Due.is("nothing is laid", x.count(1), 0);
    }

    private static void copyOrder() {
        AntFloor x = new AntFloor();
        x.sheet(0, 0, 5);
        x.sheet(1, 0, 3);
        x.sheet(2, 1, 5);
        int[][] due = {
            // from, i, to, j, n
            {-1, 0, 0, 0, 0, AntFloor.BAD}, {0, 0, 4, 0, 0, AntFloor.BAD}, {3, 0, 4, 0, 0, AntFloor.BAD}, {LEAST, 0, MOST, 0, 0, AntFloor.BAD},
            {3, 99, 0, 0, 1, AntFloor.NULL}, {0, 0, 3, 0, -1, AntFloor.NULL}, {3, 0, 3, 0, 0, AntFloor.NULL},
            {0, 99, 2, 0, -1, AntFloor.CAST}, {2, 0, 0, 0, 0, AntFloor.CAST},
            {0, -1, 1, 0, 1, AntFloor.INDEX}, {0, 0, 1, -1, 1, AntFloor.INDEX}, {0, 0, 1, 0, -1, AntFloor.INDEX},
            {0, 0, 1, 0, 4, AntFloor.INDEX}, {1, 0, 0, 0, 4, AntFloor.INDEX}, {0, 3, 1, 0, 3, AntFloor.INDEX},
            {0, 6, 1, 0, 0, AntFloor.INDEX}, {0, 0, 1, 4, 0, AntFloor.INDEX}, {0, -1, 1, 0, 0, AntFloor.INDEX},
            {0, 0, 1, -1, 0, AntFloor.INDEX}, {0, MOST, 1, 0, MOST, AntFloor.INDEX}, {0, 0, 0, 0, MOST, AntFloor.INDEX},
            {0, 0, 0, 0, LEAST, AntFloor.INDEX}, {0, LEAST, 0, 0, 0, AntFloor.INDEX}, {0, 1, 0, MOST, 1, AntFloor.INDEX},
            {0, 5, 1, 3, 0, 0}, {0, 0, 1, 0, 3, 3}, {0, 2, 1, 0, 3, 3}, {1, 0, 0, 2, 3, 3}, {0, 0, 0, 0, 5, 5}, {2, 0, 2, 4, 1, 1}};
        for (int[] d : due) {
            Due.is("copy(" + d[0] + ", " + d[1] + ", " + d[2] + ", " + d[3] + ", " + d[4] + ")",
                x.copy(d[0], d[1], d[2], d[3], d[4]), d[5]);
        }
    }

    private static void laid(AntFloor x, int sheet, int lane, int... due) {
        Due.is("lay", x.lay(sheet, lane, 0, due.length, 0, 0), due.length);
        for (int k = 0; k < due.length; k++) {
            Due.is("item " + k, x.colour(k, 0), due[k]);
        }
    }

    private static void copyMoves() {
        for (int lane = 0; lane < 3; lane++) {
            AntFloor x = new AntFloor();
            x.floor(0, 12);
            fill(x, 0, lane, 6);
            x.sheet(3, lane, 5);
            Due.is("copy", x.copy(0, 2, 3, 1, 3), 3);
            laid(x, 3, lane, 0, 3, 4, 5, 0);
            laid(x, 0, lane, 1, 2, 3, 4, 5, 6);
            x.drop(0);
            laid(x, 3, lane, 0, 3, 4, 5, 0);
        }
    }

    private static void copyAsIfTakenAhead() {
        AntFloor x = new AntFloor();
        x.floor(0, 12);
        fill(x, 0, 2, 6);
        Due.is("copy up", x.copy(0, 0, 0, 2, 4), 4);
        laid(x, 0, 2, 1, 2, 1, 2, 3, 4);
        fill(x, 0, 2, 6);
        Due.is("copy down", x.copy(0, 2, 0, 0, 4), 4);
        laid(x, 0, 2, 3, 4, 5, 6, 5, 6);
        Due.is("copy onto itself", x.copy(0, 0, 0, 0, 6), 6);
        laid(x, 0, 2, 3, 4, 5, 6, 5, 6);
    }
}
