import java.util.Arrays;

/** The boundary cases of promises 21 to 25: a case for each sentence that names one, and the calls that are refused. */
public final class PromisesOfSheetsTest {
    private static final int LEAST = Past.LEAST;
    private static final int MOST = Past.MOST;
    private static final int BAD = AntFloor.BAD;
    private static final int NULL = AntFloor.NULL;
    private static final int CAST = AntFloor.CAST;
    private static final int INDEX = AntFloor.INDEX;
    private static final int SIZE = AntFloor.SIZE;

    public static void main(String[] args) throws Exception {
        Cases.runAll(PromisesOfSheetsTest.class);
    }

    /** Twelve COLOURS; SHEET 0 bytes 1 .. 5, SHEET 1 shorts 1 .. 3, SHEET 2 no ints, SHEET 3 nothing. */
    private static AntFloor sheets() {
        AntFloor x = Past.of(0, 12);
        Past.fill(x, 0, 0, 1, 2, 3, 4, 5);
        Past.fill(x, 1, 1, 1, 2, 3);
        x.sheet(2, 2, 0);
        return x;
    }

    private static void holds(String when, AntFloor x, int sheet, int lane, int... due) {
        Due.is(when + ": lay() of sheet " + sheet, x.lay(sheet, lane, 0, due.length, 0, 119), due.length);
        for (int i = 0; i < due.length; i++) {
            Due.is(when + ": item " + i + " of sheet " + sheet, x.colour(i, 119), due[i]);
        }
        Due.is(when + ": drop() of sheet " + sheet, x.drop(sheet), due.length);
    }

    private static int sheet(int[] w) {
        return sheets().sheet(w[0], w[1], w[2]);
    }

    private static int item(AntFloor x, int[] w) {
        return x.item(w[0], w[1], w[2], w[3]);
    }

    private static int lay(AntFloor x, int[] w) {
        return x.lay(w[0], w[1], w[2], w[3], w[4], w[5]);
    }

    private static int copy(AntFloor x, int[] w) {
        return x.copy(w[0], w[1], w[2], w[3], w[4]);
    }

    private static void sheets(int due, int[]... calls) {
        for (int[] w : calls) {
            Due.is("sheet" + Arrays.toString(w), sheet(w), due);
        }
    }

    private static void items(int due, int[]... calls) {
        for (int[] w : calls) {
            Due.is("item" + Arrays.toString(w), item(sheets(), w), due);
        }
    }

    private static void lays(int due, int[]... calls) {
        for (int[] w : calls) {
            Due.is("lay" + Arrays.toString(w), lay(sheets(), w), due);
        }
    }

    private static void copies(int due, int[]... calls) {
        for (int[] w : calls) {
            Due.is("copy" + Arrays.toString(w), copy(sheets(), w), due);
        }
    }

    // ---- Promise 21: sheet

    static void promise21_noSuchSheetIsBad() {
        sheets(BAD, new int[] {-1, 0, 1}, new int[] {4, 0, 1}, new int[] {LEAST, 0, 1}, new int[] {MOST, 0, 1});
        for (int s = 0; s < 4; s++) {
            sheets(1, new int[] {s, 0, 1});
        }
    }

    static void promise21_noSuchLaneIsBad() {
        sheets(BAD, new int[] {0, -1, 1}, new int[] {0, 3, 1}, new int[] {0, LEAST, 1}, new int[] {0, MOST, 1});
        for (int lane = 0; lane < 3; lane++) {
            sheets(1, new int[] {0, lane, 1});
        }
    }

    static void promise21_nAbove60IsBad() {
        for (int lane = 0; lane < 3; lane++) {
            sheets(BAD, new int[] {0, lane, 61}, new int[] {0, lane, MOST});
            sheets(60, new int[] {0, lane, 60});
        }
    }

    static void promise21_nBelow0IsSize() {
        for (int lane = 0; lane < 3; lane++) {
            sheets(SIZE, new int[] {0, lane, -1}, new int[] {3, lane, -61}, new int[] {0, lane, LEAST});
            sheets(0, new int[] {0, lane, 0});
        }
    }

    static void promise21_badAheadOfSize() {
        sheets(BAD, new int[] {4, 0, -1}, new int[] {-1, 0, -1}, new int[] {0, 3, -1}, new int[] {0, -1, LEAST});
    }

    static void promise21_badAndSizeChangeNothing() {
        int[][] wrong = {{0, 0, 61}, {0, 3, 5}, {0, -1, 5}, {4, 0, 5}, {-1, 0, 5}, {0, 0, -1}, {1, 0, -1}, {3, 0, -1}};
        for (int[] w : wrong) {
            int due = w[2] < 0 ? SIZE : BAD;
            Refused.changesNothing("sheet" + Arrays.toString(w), Past::onARoad, x -> x.sheet(w[0], w[1], w[2]), due);
        }
    }

    static void promise21_aNewRowTakesThePlaceOfTheOld() {
        AntFloor x = sheets();
        x.sheet(0, 0, 5);
        holds("as long as the old", x, 0, 0, 0, 0, 0, 0, 0);
        AntFloor y = sheets();
        y.sheet(0, 2, 2);
        Due.is("its old lane", y.item(0, 0, 0, 1), CAST);
        Due.is("behind its new end", y.item(0, 2, 2, 1), INDEX);
        holds("shorter", y, 0, 2, 0, 0);
        AntFloor z = sheets();
        z.sheet(0, 0, 2);
        z.sheet(0, 0, 6);
        holds("longer again", z, 0, 0, 0, 0, 0, 0, 0, 0);
    }

    static void promise21_otherSheetsStay() {
        AntFloor x = sheets();
        x.sheet(3, 0, 60);
        holds("behind sheet(3)", x, 0, 0, 1, 2, 3, 4, 5);
        holds("behind sheet(3)", x, 1, 1, 1, 2, 3);
        holds("behind sheet(3)", x, 2, 2);
    }

    // ---- Promise 22: drop

    static void promise22_noSuchSheetIsBad() {
        for (int s : new int[] {-1, 4, LEAST, MOST}) {
            Due.is("drop(" + s + ")", sheets().drop(s), BAD);
        }
    }

    static void promise22_nothingIsNull() {
        AntFloor x = new AntFloor();
        for (int s = 0; s < 4; s++) {
            Due.is("drop(" + s + ") at first", x.drop(s), NULL);
        }
        x.sheet(1, 1, 1);
        Due.is("drop(1)", x.drop(1), 1);
        Due.is("drop(1) again", x.drop(1), NULL);
    }

    static void promise22_aRowOfNoItemsIs0() {
        AntFloor x = sheets();
        Due.is("drop(2)", x.drop(2), 0);
        Due.is("drop(2) again", x.drop(2), NULL);
    }

    static void promise22_aRowOf60Items() {
        AntFloor x = new AntFloor();
        x.sheet(3, 1, 60);
        Due.is("drop(3)", x.drop(3), 60);
    }

    static void promise22_aSheetHoldsNothingThen() {
        AntFloor x = sheets();
        x.drop(0);
        Due.is("item()", x.item(0, 0, 0, 1), NULL);
        Due.is("lay()", x.lay(0, 0, 0, 0, 0, 0), NULL);
        Due.is("copy()", x.copy(0, 0, 0, 0, 0), NULL);
        holds("the others stay", x, 1, 1, 1, 2, 3);
        x.sheet(0, 0, 5);
        holds("what it held is gone", x, 0, 0, 0, 0, 0, 0, 0);
    }

    static void promise22_badAndNullChangeNothing() {
        Refused.changesNothing("drop(4)", Past::onARoad, x -> x.drop(4), BAD);
        Refused.changesNothing("drop(-1)", Past::onARoad, x -> x.drop(-1), BAD);
        Refused.changesNothing("drop(3)", Past::onARoad, x -> x.drop(3), NULL);
    }

    // ---- Promise 23: item

    static void promise23_noSuchSheetOrLaneIsBad() {
        items(BAD, new int[] {-1, 0, 0, 1}, new int[] {4, 0, 0, 1}, new int[] {0, -1, 0, 1}, new int[] {0, 3, 0, 1},
            new int[] {LEAST, 0, 0, 1}, new int[] {MOST, 0, 0, 1}, new int[] {0, LEAST, 0, 1}, new int[] {0, MOST, 0, 1});
    }

    static void promise23_badAheadOfNullCastIndex() {
        items(BAD, new int[] {3, 3, 0, 1}, new int[] {3, -1, 99, 1}, new int[] {0, 3, 99, 1}, new int[] {4, 1, -1, 1});
    }

    static void promise23_nullAheadOfCastIndex() {
        items(NULL, new int[] {3, 0, 0, 1}, new int[] {3, 1, 0, 1}, new int[] {3, 2, 99, 1}, new int[] {3, 0, -1, 1});
    }

    static void promise23_castAheadOfIndex() {
        items(CAST, new int[] {0, 1, 0, 1}, new int[] {0, 2, 0, 1}, new int[] {1, 0, 0, 1}, new int[] {1, 2, 0, 1},
            new int[] {2, 0, 0, 1}, new int[] {2, 1, 0, 1}, new int[] {0, 1, 5, 1}, new int[] {0, 2, -1, 1});
    }

    static void promise23_iBelow0OrHowManyIsIndex() {
        items(INDEX, new int[] {0, 0, -1, 1}, new int[] {0, 0, 5, 1}, new int[] {0, 0, 59, 1}, new int[] {0, 0, 60, 1},
            new int[] {0, 0, LEAST, 1}, new int[] {0, 0, MOST, 1}, new int[] {1, 1, 3, 1}, new int[] {2, 2, 0, 1});
        items(1, new int[] {0, 0, 0, 1}, new int[] {0, 0, 4, 1}, new int[] {1, 1, 2, 1});
    }

    static void promise23_theLowestBitsOfV() {
        int[][] due = {{0, 256 + 7, 7}, {0, 65536 + 7, 7}, {0, -256 + 7, 7}, {0, LEAST + 7, 7}, {0, -1, BAD}, {0, 255, BAD},
            {0, 128, BAD}, {0, 127, BAD}, {1, 65536 + 7, 7}, {1, -65536 + 7, 7}, {1, LEAST + 7, 7}, {1, 256 + 7, BAD},
            {1, -1, BAD}, {1, 65535, BAD}, {1, 32768, BAD}, {2, 7, 7}, {2, 65536 + 7, BAD}, {2, 256 + 7, BAD},
            {2, LEAST + 7, BAD}, {2, -1, BAD}, {2, LEAST, BAD}, {2, MOST, BAD}};
        for (int[] d : due) {
            AntFloor x = Past.of(0, 12);
            x.sheet(0, d[0], 1);
            String call = "v " + d[1] + " in lane " + d[0];
            Due.is(call + ": item()", x.item(0, d[0], 0, d[1]), 1);
            Due.is(call + ": lay()", x.lay(0, d[0], 0, 1, 0, 0), d[2] == BAD ? BAD : 1);
            Due.is(call + ": colour()", x.colour(0, 0), d[2] == BAD ? 0 : d[2]);
        }
    }

    static void promise23_otherItemsStay() {
        AntFloor x = sheets();
        x.item(0, 0, 2, 9);
        holds("behind item 2", x, 0, 0, 1, 2, 9, 4, 5);
        holds("behind item 2", x, 1, 1, 1, 2, 3);
    }

    static void promise23_refusedChangesNothing() {
        int[][] wrong = {{4, 0, 0, 1, BAD}, {0, 3, 0, 1, BAD}, {3, 0, 0, 1, NULL}, {0, 1, 0, 3, CAST}, {1, 0, 0, 1, CAST},
            {0, 0, 5, 1, INDEX}, {0, 0, -1, 2, INDEX}, {1, 1, 3, 1, INDEX}, {2, 2, 0, 1, INDEX}};
        for (int[] w : wrong) {
            Refused.changesNothing("item" + Arrays.toString(w), Past::onARoad, x -> item(x, w), w[4]);
        }
    }

    // ---- Promise 24: lay

    static void promise24_noSuchSheetOrLaneIsBad() {
        lays(BAD, new int[] {-1, 0, 0, 1, 0, 0}, new int[] {4, 0, 0, 1, 0, 0}, new int[] {0, -1, 0, 1, 0, 0},
            new int[] {0, 3, 0, 1, 0, 0}, new int[] {LEAST, 0, 0, 1, 0, 0}, new int[] {0, MOST, 0, 1, 0, 0},
            new int[] {4, 0, 0, 0, 0, 0}, new int[] {0, 3, 0, 0, 0, 0});
    }

    static void promise24_badAheadOfNullCastSizeIndex() {
        lays(BAD, new int[] {3, 3, 0, 1, 0, 0}, new int[] {4, 1, 0, -1, 0, 0}, new int[] {0, 3, 99, 1, 0, 0},
            new int[] {0, -1, -1, -1, 0, 0});
    }

    static void promise24_nullAheadOfCastSizeIndex() {
        lays(NULL, new int[] {3, 0, 0, 1, 0, 0}, new int[] {3, 1, 99, -1, 500, 0}, new int[] {3, 2, -1, 0, 0, 500});
    }

    static void promise24_castAheadOfSizeIndex() {
        lays(CAST, new int[] {0, 1, 0, 1, 0, 0}, new int[] {0, 2, 99, 1, 0, 0}, new int[] {1, 0, 0, -1, 500, 0},
            new int[] {1, 2, 99, -1, 0, 0}, new int[] {2, 0, 0, 0, 0, 0}, new int[] {2, 1, 1, 0, 0, 0});
    }

    static void promise24_sizeAheadOfIndex() {
        lays(SIZE, new int[] {0, 0, 0, -1, 0, 0}, new int[] {0, 0, 99, -1, 500, 0}, new int[] {0, 0, -1, -1, 0, 0},
            new int[] {0, 0, 0, LEAST, 0, 0}, new int[] {2, 2, 1, -1, 0, 0}, new int[] {0, 0, MOST, LEAST, 0, 0});
    }

    static void promise24_itemsThatAreNoneAreIndex() {
        lays(INDEX, new int[] {0, 0, -1, 1, 0, 0}, new int[] {0, 0, 5, 1, 0, 0}, new int[] {0, 0, 0, 6, 0, 0},
            new int[] {0, 0, 4, 2, 0, 0}, new int[] {0, 0, -1, 6, 0, 0}, new int[] {1, 1, 3, 1, 0, 0},
            new int[] {2, 2, 0, 1, 0, 0}, new int[] {0, 0, 0, MOST, 0, 0}, new int[] {0, 0, MOST, 1, 0, 0},
            new int[] {0, 0, 1, MOST, 0, 0}, new int[] {0, 0, MOST, MOST, 0, 0}, new int[] {0, 0, LEAST, 1, 0, 0},
            new int[] {0, 0, LEAST, MOST, 0, 0});
        lays(1, new int[] {0, 0, 4, 1, 0, 0});
        lays(5, new int[] {0, 0, 0, 5, 0, 0});
    }

    static void promise24_indexAheadOfACellBeyond() {
        lays(INDEX, new int[] {0, 0, 5, 1, 500, 0}, new int[] {0, 0, -1, 1, 0, -121}, new int[] {0, 0, 0, 6, 119, 0},
            new int[] {0, 0, 6, 0, 500, 0});
        AntFloor x = Past.of(0, 2);
        Past.fill(x, 0, 0, 9);
        Due.is("of what is no colour", x.lay(0, 0, 0, 2, 0, 0), INDEX);
    }

    static void promise24_aCellBeyondIsBad() {
        for (int[] cell : Past.BEYOND) {
            lays(BAD, new int[] {0, 0, 0, 1, cell[0], cell[1]}, new int[] {0, 0, 0, 5, cell[0], cell[1]});
        }
    }

    static void promise24_theLastCellBeyondIsBad() {
        for (int n = 1; n <= 5; n++) {
            lays(n, new int[] {0, 0, 0, n, 120 - n, 119}, new int[] {0, 0, 0, n, -120, -120});
            lays(BAD, new int[] {0, 0, 0, n, 121 - n, 119}, new int[] {0, 0, 0, n, -121, -120},
                new int[] {0, 0, 0, n, 121 - n, 0});
        }
        lays(BAD, new int[] {0, 0, 0, 2, MOST, 0}, new int[] {0, 0, 0, 5, MOST - 3, 0}, new int[] {0, 0, 0, 5, -124, 0});
    }

    static void promise24_anItemThatIsNoColourIsBad() {
        for (int n = 2; n <= 12; n++) {
            AntFloor x = Past.of(0, n);
            Past.fill(x, 0, 1, n - 1, n, -1, 0, 0);
            Due.is("n - 1 of n = " + n, x.lay(0, 1, 0, 1, 0, 0), 1);
            Due.is("n of n = " + n, x.lay(0, 1, 1, 1, 0, 0), BAD);
            Due.is("-1 of n = " + n, x.lay(0, 1, 2, 1, 0, 0), BAD);
            Due.is("the first of two, n = " + n, x.lay(0, 1, 2, 2, 0, 0), BAD);
            Due.is("the last of two, n = " + n, x.lay(0, 1, 0, 2, 0, 0), BAD);
            Due.is("those that are not taken, n = " + n, x.lay(0, 1, 3, 2, 0, 0), 2);
        }
    }

    static void promise24_refusedChangesNothing() {
        int[][] wrong = {{4, 0, 0, 1, 0, 0, BAD}, {0, 3, 0, 1, 0, 0, BAD}, {3, 0, 0, 1, 0, 0, NULL},
            {0, 1, 0, 1, 0, 0, CAST}, {0, 0, 0, -1, 0, 0, SIZE}, {0, 0, 3, 3, 0, 0, INDEX}, {0, 0, -1, 1, 0, 0, INDEX},
            {0, 0, 6, 0, 0, 0, INDEX}, {0, 0, 0, 3, 118, 0, BAD}, {0, 0, 0, 2, -121, 0, BAD}, {0, 0, 0, 1, 0, 120, BAD}};
        for (int[] w : wrong) {
            Refused.changesNothing("lay" + Arrays.toString(w), Past::onARoad, x -> lay(x, w), w[6]);
        }
        Refused.changesNothing("lay() of no colour", () -> {
            AntFloor x = Past.onARoad();
            x.item(0, 0, 4, 4);
            return x;
        }, x -> x.lay(0, 0, 0, 5, 0, 0), BAD);
    }

    static void promise24_noneFromWhereItFitsIs0() {
        lays(0, new int[] {0, 0, 0, 0, 0, 0}, new int[] {0, 0, 5, 0, 0, 0}, new int[] {2, 2, 0, 0, 0, 0},
            new int[] {0, 0, 0, 0, 500, 500}, new int[] {0, 0, 5, 0, LEAST, MOST}, new int[] {2, 2, 0, 0, 120, 0});
    }

    static void promise24_noneFromBeyondIsIndex() {
        lays(INDEX, new int[] {0, 0, 6, 0, 0, 0}, new int[] {0, 0, -1, 0, 0, 0}, new int[] {2, 2, 1, 0, 0, 0},
            new int[] {0, 0, MOST, 0, 0, 0}, new int[] {0, 0, LEAST, 0, 0, 0}, new int[] {1, 1, 4, 0, 500, 500});
    }

    static void promise24_noneChangesNothing() {
        Refused.changesNothing("lay() of none", Past::onARoad, x -> x.lay(0, 0, 0, 0, 0, 0), 0);
        Refused.changesNothing("lay() of none of none", Past::onARoad, x -> x.lay(2, 2, 0, 0, 0, 0), 0);
    }

    static void promise24_oneItemToEachCell() {
        AntFloor x = sheets();
        Due.is("lay()", x.lay(0, 0, 1, 3, -2, 7), 3);
        int[] due = {0, 2, 3, 4, 0};
        for (int k = 0; k < 5; k++) {
            Due.is("colour(" + (k - 3) + ", 7)", x.colour(k - 3, 7), due[k]);
        }
        Due.is("no other", x.count(1), 3);
        holds("the sheet stays", x, 0, 0, 1, 2, 3, 4, 5);
    }

    static void promise24_sixtyItemsToTheEdge() {
        for (int lane = 0; lane < 3; lane++) {
            AntFloor x = Past.of(0, 12);
            x.sheet(3, lane, 60);
            for (int i = 0; i < 60; i++) {
                x.item(3, lane, i, 1 + i % 11);
            }
            Due.is("lay()", x.lay(3, lane, 0, 60, 60, -120), 60);
            for (int i = 0; i < 60; i++) {
                Due.is("item " + i, x.colour(60 + i, -120), 1 + i % 11);
            }
            Due.is("no other", x.count(1), 60);
        }
    }

    static void promise24_aColourOf0Too() {
        AntFloor x = new AntFloor();
        Past.fill(x, 0, 0, 0, 1, 0);
        for (int k = 0; k < 3; k++) {
            x.paint(k, 0, 1);
        }
        Due.is("lay()", x.lay(0, 0, 0, 3, 0, 0), 3);
        Due.is("one is left", x.count(1), 1);
        Due.is("the middle one", x.colour(1, 0), 1);
    }

    // ---- Promise 25: copy

    static void promise25_noSuchSheetIsBad() {
        copies(BAD, new int[] {-1, 0, 0, 0, 1}, new int[] {4, 0, 0, 0, 1}, new int[] {0, 0, -1, 0, 1},
            new int[] {0, 0, 4, 0, 1}, new int[] {LEAST, 0, 0, 0, 1}, new int[] {0, 0, MOST, 0, 1});
    }

    static void promise25_badAheadOfNullCastIndex() {
        copies(BAD, new int[] {3, 0, 4, 0, 1}, new int[] {-1, 0, 3, 0, 1}, new int[] {0, 99, 4, 0, -1},
            new int[] {4, 0, 1, 0, 0});
    }

    static void promise25_eitherNothingIsNull() {
        copies(NULL, new int[] {3, 0, 0, 0, 1}, new int[] {0, 0, 3, 0, 1}, new int[] {3, 0, 3, 0, 0},
            new int[] {3, 0, 2, 0, 0});
    }

    static void promise25_nullAheadOfCastIndex() {
        copies(NULL, new int[] {3, 99, 1, 0, 1}, new int[] {1, 0, 3, 99, 1}, new int[] {3, 0, 0, 0, -1},
            new int[] {0, -1, 3, -1, 0});
    }

    static void promise25_unlikeLanesAreCast() {
        AntFloor x = new AntFloor();
        for (int lane = 0; lane < 3; lane++) {
            x.sheet(lane, lane, 2);
        }
        for (int from = 0; from < 3; from++) {
            for (int to = 0; to < 3; to++) {
                Due.is("from lane " + from + " to " + to, x.copy(from, 0, to, 0, 1), from == to ? 1 : CAST);
                Due.is("none from lane " + from + " to " + to, x.copy(from, 0, to, 0, 0), from == to ? 0 : CAST);
            }
        }
    }

    static void promise25_castAheadOfIndex() {
        copies(CAST, new int[] {0, 99, 1, 0, 1}, new int[] {0, 0, 1, 99, 1}, new int[] {1, 0, 0, 0, -1},
            new int[] {0, -1, 2, 0, 0});
    }

    /** SHEET 0 bytes 1 .. 5 and SHEET 3 bytes 6 .. 8. */
    private static AntFloor twoOfBytes() {
        AntFloor x = sheets();
        Past.fill(x, 3, 0, 6, 7, 8);
        return x;
    }

    private static void copiesOfBytes(int due, int[]... calls) {
        for (int[] w : calls) {
            Due.is("copy" + Arrays.toString(w), copy(twoOfBytes(), w), due);
        }
    }

    static void promise25_nBelow0IsIndex() {
        copiesOfBytes(INDEX, new int[] {0, 0, 3, 0, -1}, new int[] {0, 3, 3, 2, -1}, new int[] {0, 0, 0, 0, LEAST},
            new int[] {0, 5, 3, 3, -2});
    }

    static void promise25_itemsThatAreNoneAreIndex() {
        copiesOfBytes(INDEX, new int[] {0, -1, 3, 0, 1}, new int[] {0, 0, 3, -1, 1}, new int[] {0, 5, 3, 0, 1},
            new int[] {0, 0, 3, 3, 1}, new int[] {0, 3, 3, 0, 3}, new int[] {0, 0, 3, 1, 3}, new int[] {0, 0, 3, 0, 4},
            new int[] {3, 0, 0, 0, 4}, new int[] {0, 0, 0, 0, 6}, new int[] {0, MOST, 3, 0, 1},
            new int[] {0, 0, 3, MOST, 1}, new int[] {0, 1, 3, 1, MOST}, new int[] {0, MOST, 0, MOST, MOST},
            new int[] {0, LEAST, 3, 0, 1}, new int[] {0, 0, 3, LEAST, 1}, new int[] {0, LEAST, 3, LEAST, MOST});
        copiesOfBytes(3, new int[] {0, 0, 3, 0, 3}, new int[] {0, 2, 3, 0, 3}, new int[] {3, 0, 0, 2, 3});
        copiesOfBytes(5, new int[] {0, 0, 0, 0, 5});
        copiesOfBytes(1, new int[] {0, 4, 3, 2, 1});
    }

    static void promise25_noneUpToTheEndIs0() {
        copiesOfBytes(0, new int[] {0, 0, 3, 0, 0}, new int[] {0, 5, 3, 3, 0}, new int[] {0, 5, 0, 5, 0},
            new int[] {2, 0, 2, 0, 0});
    }

    static void promise25_noneFromAboveTheEndIsIndex() {
        copiesOfBytes(INDEX, new int[] {0, 6, 3, 0, 0}, new int[] {0, 0, 3, 4, 0}, new int[] {2, 1, 2, 0, 0},
            new int[] {2, 0, 2, 1, 0}, new int[] {0, -1, 3, 0, 0}, new int[] {0, 0, 3, -1, 0},
            new int[] {0, MOST, 3, 0, 0}, new int[] {0, 0, 3, LEAST, 0});
    }

    static void promise25_refusedChangesNothing() {
        int[][] wrong = {{4, 0, 0, 0, 1, BAD}, {0, 0, -1, 0, 1, BAD}, {3, 0, 0, 0, 1, NULL}, {0, 0, 3, 0, 1, NULL},
            {0, 0, 1, 0, 1, CAST}, {0, 3, 0, 0, 3, INDEX}, {0, 0, 0, 3, 3, INDEX}, {0, 1, 0, 0, -1, INDEX},
            {0, 6, 0, 0, 0, INDEX}, {1, 1, 1, 0, 3, INDEX}};
        for (int[] w : wrong) {
            Refused.changesNothing("copy" + Arrays.toString(w), Past::onARoad, x -> copy(x, w), w[5]);
        }
    }

    static void promise25_toAnotherSheet() {
        AntFloor x = twoOfBytes();
        Due.is("copy()", x.copy(0, 3, 3, 1, 2), 2);
        holds("what came", x, 3, 0, 6, 4, 5);
        holds("from where it came", x, 0, 0, 1, 2, 3, 4, 5);
    }

    static void promise25_theSheetsStayTwo() {
        AntFloor x = twoOfBytes();
        x.copy(0, 0, 3, 0, 3);
        x.item(0, 0, 0, 11);
        holds("what came", x, 3, 0, 1, 2, 3);
    }

    static void promise25_toTheSameSheetAsIfTakenAhead() {
        AntFloor x = sheets();
        Due.is("up by one", x.copy(0, 0, 0, 1, 4), 4);
        holds("up by one", x, 0, 0, 1, 1, 2, 3, 4);
        AntFloor y = sheets();
        Due.is("down by one", y.copy(0, 1, 0, 0, 4), 4);
        holds("down by one", y, 0, 0, 2, 3, 4, 5, 5);
        AntFloor z = sheets();
        Due.is("onto itself", z.copy(0, 0, 0, 0, 5), 5);
        holds("onto itself", z, 0, 0, 1, 2, 3, 4, 5);
    }

    static void promise25_ofEachLane() {
        for (int lane = 0; lane < 3; lane++) {
            AntFloor x = Past.of(0, 12);
            Past.fill(x, 1, lane, 9, 8, 7);
            x.sheet(2, lane, 60);
            Due.is("copy()", x.copy(1, 0, 2, 57, 3), 3);
            Due.is("lay()", x.lay(2, lane, 57, 3, 0, 0), 3);
            for (int k = 0; k < 3; k++) {
                Due.is("item " + k, x.colour(k, 0), 9 - k);
            }
        }
    }

    static void promise25_itemsThatAreNoColoursToo() {
        AntFloor x = Past.of(0, 2);
        Past.fill(x, 0, 2, MOST, LEAST, 1);
        x.sheet(1, 2, 3);
        Due.is("copy()", x.copy(0, 0, 1, 0, 3), 3);
        Due.is("the first", x.lay(1, 2, 0, 1, 0, 0), BAD);
        Due.is("the second", x.lay(1, 2, 1, 1, 0, 0), BAD);
        Due.is("the third", x.lay(1, 2, 2, 1, 0, 0), 1);
    }
}
