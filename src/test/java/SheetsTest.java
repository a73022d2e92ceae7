/** Promises 24 to 27: sheet, drop, item, rows. */
public final class SheetsTest {
    private static final int[] FAR = {Integer.MIN_VALUE, Integer.MAX_VALUE};

    public static void main(String[] args) {
        sheet();
        drop();
        item();
        lowestBits();
        rows();
        wrongRows();
        notAsTold();
        wholeBytes();
        wholeInts();
        anotherRow();
        sheetsByThemselves();
        noItemsIsNotNothing();
        rowsBesideOthers();
        Due.end(SheetsTest.class);
    }

    private static void sheet() {
        MixedWords x = new MixedWords();
        for (int sheet = 0; sheet < 4; sheet++) {
            for (int lane = 0; lane < 3; lane++) {
                Due.is("sheet of none", x.sheet(sheet, lane, 0), 0);
                Due.is("sheet of the most", x.sheet(sheet, lane, 25), 25);
                Due.is("item of it", x.item(sheet, lane, 24, 1), 1);
            }
        }
        Due.is("sheet of 26", x.sheet(0, 0, 26), MixedWords.BAD);
        Due.is("sheet of -1", x.sheet(0, 0, -1), MixedWords.SIZE);
        Due.is("sheet of the most", x.sheet(0, 0, FAR[1]), MixedWords.BAD);
        Due.is("sheet of the least", x.sheet(0, 0, FAR[0]), MixedWords.SIZE);
        int[][] wrong = {{-1, 0}, {4, 0}, {0, -1}, {0, 3}, {FAR[0], 0}, {FAR[1], 0}, {0, FAR[0]}, {0, FAR[1]}};
        for (int[] w : wrong) {
            Due.is("sheet(" + w[0] + ", " + w[1] + ", 1)", x.sheet(w[0], w[1], 1), MixedWords.BAD);
            Due.is("BAD is named before SIZE", x.sheet(w[0], w[1], -1), MixedWords.BAD);
        }
        Due.is("what answered below 0 changed nothing", x.drop(0), 25);

        x.sheet(1, 1, 6);
        x.item(1, 1, 0, 7);
        Due.is("rows", x.rows(1, 1, 0), 2);
        Due.is("told(0, 0)", x.told(0, 0), 7);
        x.sheet(1, 1, 6);
        Due.is("rows of a new row", x.rows(1, 1, 0), 2);
        Due.is("items are 0 at first", x.told(0, 0), 0);
    }

    private static void drop() {
        MixedWords x = new MixedWords();
        Due.is("drop of nothing", x.drop(3), MixedWords.NULL);
        x.sheet(3, 2, 9);
        x.sheet(2, 2, 0);
        Due.is("drop(3)", x.drop(3), 9);
        Due.is("drop(3) again", x.drop(3), MixedWords.NULL);
        Due.is("drop of a row of none", x.drop(2), 0);
        Due.is("drop of it again", x.drop(2), MixedWords.NULL);
        for (int sheet : new int[] {-1, 4, FAR[0], FAR[1]}) {
            Due.is("drop(" + sheet + ")", x.drop(sheet), MixedWords.BAD);
        }
    }

    private static void item() {
        MixedWords x = new MixedWords();
        Due.is("item of nothing", x.item(0, 0, 0, 1), MixedWords.NULL);
        Due.is("NULL is named before INDEX", x.item(0, 0, 99, 1), MixedWords.NULL);
        x.sheet(0, 1, 3);
        Due.is("item of another LANE", x.item(0, 0, 0, 1), MixedWords.CAST);
        Due.is("item of another LANE", x.item(0, 2, 0, 1), MixedWords.CAST);
        Due.is("CAST is named before INDEX", x.item(0, 2, 3, 1), MixedWords.CAST);
        for (int i : new int[] {3, -1, FAR[0], FAR[1]}) {
            Due.is("item " + i, x.item(0, 1, i, 1), MixedWords.INDEX);
        }
        Due.is("item 2", x.item(0, 1, 2, 1), 1);
        int[][] wrong = {{-1, 0}, {4, 0}, {0, -1}, {0, 3}, {1, 3}, {FAR[0], 0}, {FAR[1], 0}, {0, FAR[0]}, {0, FAR[1]}};
        for (int[] w : wrong) {
            Due.is("item(" + w[0] + ", " + w[1] + ", 0, 1)", x.item(w[0], w[1], 0, 1), MixedWords.BAD);
        }
        x.sheet(0, 1, 0);
        Due.is("item 0 of none", x.item(0, 1, 0, 1), MixedWords.INDEX);
        x.drop(0);
        Due.is("item behind drop", x.item(0, 1, 0, 1), MixedWords.NULL);
    }

    private static void lowestBits() {
        int[][] asByte = {{256 + 5, 5}, {255, -1}, {-256, 0}, {0x7FFFFF09, 9}, {-249, 7}};
        for (int[] pair : asByte) {
            MixedWords x = new MixedWords();
            x.sheet(0, 0, 6);
            Due.is("item of a byte", x.item(0, 0, 0, pair[0]), 1);
            Due.is("rows", x.rows(0, 0, 0), 2);
            Due.is("told(0, 0) of " + pair[0], x.told(0, 0), pair[1]);
            for (int lane = 1; lane < 3; lane++) {
                x.sheet(0, lane, 6);
                x.item(0, lane, 0, pair[0]);
                Due.is("rows: ints and longs keep all", x.rows(0, lane, 0), MixedWords.NOT);
            }
        }
        MixedWords below = new MixedWords();
        below.sheet(0, 2, 6);
        below.item(0, 2, 3, -9);
        Due.is("rows of longs", below.rows(0, 2, 0), 2);
        Due.is("told(1, 0)", below.told(1, 0), -9);
    }

    private static void rows() {
        MixedWords x = new MixedWords();
        x.table(2, 3);
        x.sheet(0, 1, 10);
        int[] items = {99, 1, -2, 3, -999, 4, 5, -9, 999, 99};
        for (int i = 0; i < items.length; i++) {
            x.item(0, 1, i, items[i]);
        }
        x.set(0, 0, 8);
        x.set(0, 0, 9);
        x.undo();
        Due.is("rows(0, 1, 1)", x.rows(0, 1, 1), 2);
        for (int k = 0; k < 8; k++) {
            Due.is("told(" + k / 4 + ", " + k % 4 + ")", x.told(k / 4, k % 4), items[k + 1]);
        }
        Due.is("undo() behind rows", x.undo(), MixedWords.NOT);
        Due.is("redo() behind rows", x.redo(), MixedWords.NOT);
        Due.is("the sheet stays", x.drop(0), 10);

        MixedWords most = new MixedWords();
        most.table(5, 4);
        most.sheet(3, 0, 25);
        most.item(3, 0, 24, -128);
        Due.is("rows of 25", most.rows(3, 0, 0), 5);
        Due.is("told(4, 4)", most.told(4, 4), -128);
        Due.is("rows of 25 from 1 on", most.rows(3, 0, 1), MixedWords.INDEX);
    }

    private static void wrongRows() {
        MixedWords x = new MixedWords();
        Due.is("rows of nothing", x.rows(0, 0, 0), MixedWords.NULL);
        Due.is("NULL is named before INDEX", x.rows(0, 0, 99), MixedWords.NULL);
        x.sheet(0, 1, 7);
        Due.is("rows of another LANE", x.rows(0, 0, 0), MixedWords.CAST);
        Due.is("CAST is named before INDEX", x.rows(0, 2, 99), MixedWords.CAST);
        for (int i : new int[] {2, 7, -1, FAR[0], FAR[1], FAR[1] - 3}) {
            Due.is("rows from " + i, x.rows(0, 1, i), MixedWords.INDEX);
        }
        Due.is("rows from 1", x.rows(0, 1, 1), 2);
        x.item(0, 1, 3, 1000);
        Due.is("INDEX is named before NOT", x.rows(0, 1, 2), MixedWords.INDEX);
        x.sheet(0, 1, 5);
        Due.is("rows of too few", x.rows(0, 1, 0), MixedWords.INDEX);
        int[][] wrong = {{-1, 0}, {4, 0}, {0, -1}, {0, 3}, {1, 3}, {FAR[0], 0}, {FAR[1], 0}, {0, FAR[0]}, {0, FAR[1]}};
        for (int[] w : wrong) {
            Due.is("rows(" + w[0] + ", " + w[1] + ", 0)", x.rows(w[0], w[1], 0), MixedWords.BAD);
        }
    }

    private static void notAsTold() {
        int[] most = {9, 9, 999, 9, 9, 999};
        for (int i = 0; i < most.length; i++) {
            for (int sign = -1; sign <= 1; sign += 2) {
                MixedWords x = new MixedWords();
                x.set(0, 0, 7);
                x.hear(0, 8);
                x.sheet(0, 2, 6);
                x.item(0, 2, i, sign * (most[i] + 1));
                Due.is("rows with one too far", x.rows(0, 2, 0), MixedWords.NOT);
                Due.is("told(0, 0) stays", x.told(0, 0), 7);
                Due.is("told(0, 2) stays", x.told(0, 2), 8);
                Due.is("ACTS stay", x.undo(), 1);
                x.item(0, 2, i, sign * most[i]);
                Due.is("rows with the farthest", x.rows(0, 2, 0), 2);
                Due.is("told of it", x.told(i / 3, i % 3), sign * most[i]);
            }
        }
    }

    /** "its lowest bits" of a byte, by all that HEARD can tell: -128 .. 127 come round. */
    private static void wholeBytes() {
        MixedWords x = new MixedWords();
        x.table(1, 1);
        x.sheet(0, 0, 2);
        int[][] pairs = {
            {127, 127}, {128, -128}, {129, -127}, {255, -1}, {256, 0}, {257, 1}, {-1, -1}, {-128, -128}, {-129, 127}, {-255, 1},
            {-256, 0}, {-257, -1}, {999, -25}, {-999, 25}, {1000, -24}, {FAR[0], 0}, {FAR[1], -1}, {0x12345680, -128},
        };
        for (int[] pair : pairs) {
            Due.is("item of bytes, " + pair[0], x.item(0, 0, 1, pair[0]), 1);
            Due.is("rows of bytes", x.rows(0, 0, 0), 1);
            Due.is("HEARD is " + pair[0] + " as a byte", x.told(0, 1), pair[1]);
        }
        x.item(0, 0, 0, 10);
        Due.is("rows of bytes with a number 10", x.rows(0, 0, 0), MixedWords.NOT);
        x.item(0, 0, 0, 256 + 9);
        Due.is("rows of bytes with a number 9", x.rows(0, 0, 0), 1);
        x.item(0, 0, 0, 256 - 9);
        Due.is("rows of bytes with a number -9", x.rows(0, 0, 0), 1);
        Due.is("told(0, 0)", x.told(0, 0), -9);
        x.item(0, 0, 0, 256 - 10);
        Due.is("rows of bytes with a number -10", x.rows(0, 0, 0), MixedWords.NOT);
    }

    /** Ints and longs keep every bit of v, so that what is too far stays so. */
    private static void wholeInts() {
        int[] far = {1000, -1000, 65536, 1 << 30, FAR[0], FAR[1], FAR[0] + 5, 256 * 1000};
        for (int lane = 1; lane < 3; lane++) {
            MixedWords x = new MixedWords();
            x.table(1, 1);
            x.sheet(0, lane, 2);
            for (int v : far) {
                Due.is("item of lane " + lane + ", " + v, x.item(0, lane, 1, v), 1);
                Due.is("rows of lane " + lane + " with " + v, x.rows(0, lane, 0), MixedWords.NOT);
            }
            for (int v : new int[] {999, -999, 0, 128, -129}) {
                x.item(0, lane, 1, v);
                Due.is("rows of lane " + lane + " with " + v, x.rows(0, lane, 0), 1);
                Due.is("HEARD is " + v, x.told(0, 1), v);
            }
        }
    }

    /** "A SHEET holds a new row": nothing of the old one is left, neither its LANE nor its items nor their count. */
    private static void anotherRow() {
        for (int lane = 0; lane < 3; lane++) {
            MixedWords x = new MixedWords();
            int other = (lane + 1) % 3;
            x.sheet(0, lane, 25);
            for (int i = 0; i < 25; i++) {
                x.item(0, lane, i, 7);
            }
            Due.is("sheet anew", x.sheet(0, other, 6), 6);
            Due.is("item of the old lane", x.item(0, lane, 0, 1), MixedWords.CAST);
            Due.is("item 6 of the new", x.item(0, other, 6, 1), MixedWords.INDEX);
            x.set(0, 0, 5);
            Due.is("rows of the new", x.rows(0, other, 0), 2);
            for (int k = 0; k < 6; k++) {
                Due.is("item " + k + " is 0 at first", x.told(k / 3, k % 3), 0);
            }
            x.sheet(0, other, 25);
            Due.is("rows of one longer", x.rows(0, other, 19), 2);
            Due.is("its last item is 0 at first", x.told(1, 2), 0);
            x.item(0, other, 24, 8);
            Due.is("drop", x.drop(0), 25);
            x.sheet(0, other, 25);
            Due.is("rows behind drop", x.rows(0, other, 19), 2);
            Due.is("its last item is 0 at first", x.told(1, 2), 0);
        }
    }

    private static void sheetsByThemselves() {
        MixedWords x = new MixedWords();
        x.table(1, 1);
        for (int sheet = 0; sheet < 4; sheet++) {
            x.sheet(sheet, sheet % 3, 2 + sheet);
            x.item(sheet, sheet % 3, 1, 10 + sheet);
        }
        Due.is("drop(1)", x.drop(1), 3);
        for (int sheet = 0; sheet < 4; sheet++) {
            Due.is("rows of sheet " + sheet, x.rows(sheet, sheet % 3, 0), sheet == 1 ? MixedWords.NULL : 1);
            Due.is("HEARD of sheet " + sheet, x.told(0, 1), sheet == 1 ? 10 : 10 + sheet);
        }
        x.item(3, 0, 1, 99);
        Due.is("HEARD is no part of the sheet", x.told(0, 1), 13);
        x.hear(0, 55);
        Due.is("rows again", x.rows(3, 0, 0), 1);
        Due.is("the sheet is no part of HEARD", x.told(0, 1), 99);
        x.table(2, 2);
        x.letters(4);
        Due.type(x, "1");
        x.read();
        Due.is("sheets stay behind table, letters, read", x.rows(3, 0, 0), 1);
        Due.is("HEARD then", x.told(0, 1), 99);
        Due.is("drop(3) counts its items", x.drop(3), 5);
    }

    /** A row of 0 items is a row: neither BAD nor NULL. */
    private static void noItemsIsNotNothing() {
        for (int lane = 0; lane < 3; lane++) {
            MixedWords x = new MixedWords();
            Due.is("sheet of none", x.sheet(3, lane, 0), 0);
            Due.is("item 0 of none", x.item(3, lane, 0, 1), MixedWords.INDEX);
            Due.is("rows of none", x.rows(3, lane, 0), MixedWords.INDEX);
            Due.is("item 0 of none, another lane", x.item(3, (lane + 1) % 3, 0, 1), MixedWords.CAST);
            Due.is("drop of none", x.drop(3), 0);
            Due.is("item 0 of nothing", x.item(3, lane, 0, 1), MixedWords.NULL);
            Due.is("rows of nothing", x.rows(3, lane, 0), MixedWords.NULL);
            Due.is("drop of nothing", x.drop(3), MixedWords.NULL);
            Due.is("sheet of one", x.sheet(3, lane, 1), 1);
            Due.is("item 0 of one", x.item(3, lane, 0, 1), 1);
            Due.is("rows of one", x.rows(3, lane, 0), MixedWords.INDEX);
        }
    }

    /** What stands beside the items that are taken may be anything. */
    private static void rowsBesideOthers() {
        MixedWords x = new MixedWords();
        x.table(2, 1);
        x.sheet(2, 1, 25);
        for (int i = 0; i < 25; i++) {
            x.item(2, 1, i, 5000);
        }
        for (int from = 0; from <= 21; from++) {
            Due.is("rows of 5000s from " + from, x.rows(2, 1, from), MixedWords.NOT);
            for (int k = 0; k < 4; k++) {
                x.item(2, 1, from + k, k % 2 == 0 ? -k - from % 7 : 900 + from);
            }
            Due.is("rows from " + from, x.rows(2, 1, from), 2);
            Due.is("told(0, 0)", x.told(0, 0), -(from % 7));
            Due.is("told(1, 0)", x.told(1, 0), -2 - from % 7);
            Due.is("told(1, 1)", x.told(1, 1), 900 + from);
            for (int k = 0; k < 4; k++) {
                x.item(2, 1, from + k, 5000);
            }
        }
        Due.is("rows from 22", x.rows(2, 1, 22), MixedWords.INDEX);
    }
}
