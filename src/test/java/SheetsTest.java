/** Promises 24 to 27: sheet, drop, item, rows. */
public final class SheetsTest {
    private static final int[] FAR = {Integer.MIN_VALUE, Integer.MAX_VALUE};

    public static void main(String[] args) {
        sheet();
        drop();
        item();
        lowestBits();
        rows();
        wrongRows();
        notAsTold();
        Due.end(SheetsTest.class);
    }

    private static void sheet() {
        MixedWords x = new MixedWords();
        for (int sheet = 0; sheet < 4; sheet++) {
            for (int lane = 0; lane < 3; lane++) {
                Due.is("sheet of none", x.sheet(sheet, lane, 0), 0);
                Due.is("sheet of the most", x.sheet(sheet, lane, 25), 25);
                Due.is("item of it", x.item(sheet, lane, 24, 1), 1);
            }
        }
        Due.is("sheet of 26", x.sheet(0, 0, 26), MixedWords.BAD);
        Due.is("sheet of -1", x.sheet(0, 0, -1), MixedWords.SIZE);
        Due.is("sheet of the most", x.sheet(0, 0, FAR[1]), MixedWords.BAD);
        Due.is("sheet of the least", x.sheet(0, 0, FAR[0]), MixedWords.SIZE);
        int[][] wrong = {{-1, 0}, {4, 0}, {0, -1}, {0, 3}, {FAR[0], 0}, {FAR[1], 0}, {0, FAR[0]}, {0, FAR[1]}};
        for (int[] w : wrong) {
            Due.is("sheet(" + w[0] + ", " + w[1] + ", 1)", x.sheet(w[0], w[1], 1), MixedWords.BAD);
            Due.is("BAD is named before SIZE", x.sheet(w[0], w[1], -1), MixedWords.BAD);
        }
        Due.is("what answered below 0 changed nothing", x.drop(0), 25);

        x.sheet(1, 1, 6);
        x.item(1, 1, 0, 7);
        Due.is("rows", x.rows(1, 1, 0), 2);
        Due.is("told(0, 0)", x.told(0, 0), 7);
        x.sheet(1, 1, 6);
        Due.is("rows of a new row", x.rows(1, 1, 0), 2);
        Due.is("items are 0 at first", x.told(0, 0), 0);
    }

    private static void drop() {
        MixedWords x = new MixedWords();
        Due.is("drop of nothing", x.drop(3), MixedWords.NULL);
        x.sheet(3, 2, 9);
        x.sheet(2, 2, 0);
        Due.is("drop(3)", x.drop(3), 9);
        Due.is("drop(3) again", x.drop(3), MixedWords.NULL);
        Due.is("drop of a row of none", x.drop(2), 0);
        Due.is("drop of it again", x.drop(2), MixedWords.NULL);
        for (int sheet : new int[] {-1, 4, FAR[0], FAR[1]}) {
            Due.is("drop(" + sheet + ")", x.drop(sheet), MixedWords.BAD);
        }
    }

    private static void item() {
        MixedWords x = new MixedWords();
        Due.is("item of nothing", x.item(0, 0, 0, 1), MixedWords.NULL);
        Due.is("NULL is named before INDEX", x.item(0, 0, 99, 1), MixedWords.NULL);
        x.sheet(0, 1, 3);
        Due.is("item of another LANE", x.item(0, 0, 0, 1), MixedWords.CAST);
        Due.is("item of another LANE", x.item(0, 2, 0, 1), MixedWords.CAST);
        Due.is("CAST is named before INDEX", x.item(0, 2, 3, 1), MixedWords.CAST);
        for (int i : new int[] {3, -1, FAR[0], FAR[1]}) {
            Due.is("item " + i, x.item(0, 1, i, 1), MixedWords.INDEX);
        }
        Due.is("item 2", x.item(0, 1, 2, 1), 1);
        int[][] wrong = {{-1, 0}, {4, 0}, {0, -1}, {0, 3}, {1, 3}, {FAR[0], 0}, {FAR[1], 0}, {0, FAR[0]}, {0, FAR[1]}};
        for (int[] w : wrong) {
            Due.is("item(" + w[0] + ", " + w[1] + ", 0, 1)", x.item(w[0], w[1], 0, 1), MixedWords.BAD);
        }
        x.sheet(0, 1, 0);
        Due.is("item 0 of none", x.item(0, 1, 0, 1), MixedWords.INDEX);
        x.drop(0);
        Due.is("item behind drop", x.item(0, 1, 0, 1), MixedWords.NULL);
    }

    private static void lowestBits() {
        int[][] asByte = {{256 + 5, 5}, {255, -1}, {-256, 0}, {0x7FFFFF09, 9}, {-249, 7}};
        for (int[] pair : asByte) {
            MixedWords x = new MixedWords();
            x.sheet(0, 0, 6);
            Due.is("item of a byte", x.item(0, 0, 0, pair[0]), 1);
            Due.is("rows", x.rows(0, 0, 0), 2);
            Due.is("told(0, 0) of " + pair[0], x.told(0, 0), pair[1]);
            for (int lane = 1; lane < 3; lane++) {
                x.sheet(0, lane, 6);
                x.item(0, lane, 0, pair[0]);
                Due.is("rows: ints and longs keep all", x.rows(0, lane, 0), MixedWords.NOT);
            }
        }
        MixedWords below = new MixedWords();
        below.sheet(0, 2, 6);
        below.item(0, 2, 3, -9);
        Due.is("rows of longs", below.rows(0, 2, 0), 2);
        Due.is("told(1, 0)", below.told(1, 0), -9);
    }

    private static void rows() {
        MixedWords x = new MixedWords();
        x.table(2, 3);
        x.sheet(0, 1, 10);
        int[] items = {99, 1, -2, 3, -999, 4, 5, -9, 999, 99};
        for (int i = 0; i < items.length; i++) {
            x.item(0, 1, i, items[i]);
        }
        x.set(0, 0, 8);
        x.set(0, 0, 9);
        x.undo();
        Due.is("rows(0, 1, 1)", x.rows(0, 1, 1), 2);
        for (int k = 0; k < 8; k++) {
            Due.is("told(" + k / 4 + ", " + k % 4 + ")", x.told(k / 4, k % 4), items[k + 1]);
        }
        Due.is("undo() behind rows", x.undo(), MixedWords.NOT);
        Due.is("redo() behind rows", x.redo(), MixedWords.NOT);
        Due.is("the sheet stays", x.drop(0), 10);

        MixedWords most = new MixedWords();
        most.table(5, 4);
        most.sheet(3, 0, 25);
        most.item(3, 0, 24, -128);
        Due.is("rows of 25", most.rows(3, 0, 0), 5);
        Due.is("told(4, 4)", most.told(4, 4), -128);
        Due.is("rows of 25 from 1 on", most.rows(3, 0, 1), MixedWords.INDEX);
    }

    private static void wrongRows() {
        MixedWords x = new MixedWords();
        Due.is("rows of nothing", x.rows(0, 0, 0), MixedWords.NULL);
        Due.is("NULL is named before INDEX", x.rows(0, 0, 99), MixedWords.NULL);
        x.sheet(0, 1, 7);
        Due.is("rows of another LANE", x.rows(0, 0, 0), MixedWords.CAST);
        Due.is("CAST is named before INDEX", x.rows(0, 2, 99), MixedWords.CAST);
        for (int i : new int[] {2, 7, -1, FAR[0], FAR[1], FAR[1] - 3}) {
            Due.is("rows from " + i, x.rows(0, 1, i), MixedWords.INDEX);
        }
        Due.is("rows from 1", x.rows(0, 1, 1), 2);
        x.item(0, 1, 3, 1000);
        Due.is("INDEX is named before NOT", x.rows(0, 1, 2), MixedWords.INDEX);
        x.sheet(0, 1, 5);
        Due.is("rows of too few", x.rows(0, 1, 0), MixedWords.INDEX);
        int[][] wrong = {{-1, 0}, {4, 0}, {0, -1}, {0, 3}, {1, 3}, {FAR[0], 0}, {FAR[1], 0}, {0, FAR[0]}, {0, FAR[1]}};
        for (int[] w : wrong) {
            Due.is("rows(" + w[0] + ", " + w[1] + ", 0)", x.rows(w[0], w[1], 0), MixedWords.BAD);
        }
    }

    private static void notAsTold() {
        int[] most = {9, 9, 999, 9, 9, 999};
        for (int i = 0; i < most.length; i++) {
            for (int sign = -1; sign <= 1; sign += 2) {
                MixedWords x = new MixedWords();
                x.set(0, 0, 7);
                x.hear(0, 8);
                x.sheet(0, 2, 6);
                x.item(0, 2, i, sign * (most[i] + 1));
                Due.is("rows with one too far", x.rows(0, 2, 0), MixedWords.NOT);
                Due.is("told(0, 0) stays", x.told(0, 0), 7);
                Due.is("told(0, 2) stays", x.told(0, 2), 8);
                Due.is("ACTS stay", x.undo(), 1);
                x.item(0, 2, i, sign * most[i]);
                Due.is("rows with the farthest", x.rows(0, 2, 0), 2);
                Due.is("told of it", x.told(i / 3, i % 3), sign * most[i]);
            }
        }
    }
}
