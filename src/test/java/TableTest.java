/** Promises 2 to 5 and 8: table, letters, set, hear, told. */
public final class TableTest {
    private static final int[] FAR = {Integer.MIN_VALUE, Integer.MAX_VALUE};

    public static void main(String[] args) {
        table();
        wrongTable();
        letters();
        set();
        hear();
        told();
        Due.end(TableTest.class);
    }

    private static void table() {
        MixedWords x = new MixedWords();
        for (int r = 1; r <= 5; r++) {
            for (int m = 1; m <= 4; m++) {
                Due.is("table(" + r + ", " + m + ")", x.table(r, m), 1);
                Due.is("told at the last number", x.told(r - 1, m - 1), 0);
                Due.is("told at the last HEARD", x.told(r - 1, m), 0);
                Due.is("told below the last row", x.told(r, 0), -10001);
                Due.is("told behind HEARD", x.told(0, m + 1), -10001);
                Due.is("set of the last number", x.set(r - 1, m - 1, 9), 0);
                Due.is("hear of the last row", x.hear(r - 1, 9), 0);
            }
        }
        Due.is("table(5, 4) over itself", x.table(5, 4), 1);
        Due.is("told(4, 3) is 0 anew", x.told(4, 3), 0);
        Due.is("told(4, 4) is 0 anew", x.told(4, 4), 0);
        Due.is("undo() behind table", x.undo(), MixedWords.NOT);

        MixedWords y = Due.of("1,2;3,4", 4, 7, 8);
        Due.type(y, "5");
        y.sheet(2, 1, 4);
        y.undo();
        Due.is("table(1, 1)", y.table(1, 1), 1);
        Due.is("redo() behind table", y.redo(), MixedWords.NOT);
        Due.is("letters stay", y.letters(4), 4);
        Due.is("the tape stays", y.read(), 1);
        Due.is("told of the tape", y.told(0, 0), 5);
        Due.is("the sheets stay", y.drop(2), 4);
    }

    private static void wrongTable() {
        MixedWords x = Due.of("1,2;3,4", 2, 7, 8);
        int[][] wrong = {{0, 1}, {6, 1}, {1, 0}, {1, 5}, {-1, 2}, {2, -1}};
        for (int[] w : wrong) {
            Due.is("table(" + w[0] + ", " + w[1] + ")", x.table(w[0], w[1]), MixedWords.BAD);
        }
        for (int far : FAR) {
            Due.is("table(far, 2)", x.table(far, 2), MixedWords.BAD);
            Due.is("table(2, far)", x.table(2, far), MixedWords.BAD);
        }
        Due.is("the table stays", x.told(1, 1), 4);
        Due.is("HEARD stays", x.told(1, 2), 8);
        Due.is("ACTS stay", x.undo(), 1);
    }

    private static void letters() {
        MixedWords x = Due.of("1,2;3,4", 2, 7, 8);
        for (int a : new int[] {3, 0, 1, -2, -4, 5, 6, 8, Integer.MIN_VALUE, Integer.MAX_VALUE}) {
            Due.is("letters(" + a + ")", x.letters(a), MixedWords.BAD);
        }
        Due.is("ACTS stay where letters is BAD", x.undo(), 1);
        Due.is("letters(4)", x.letters(4), 2);
        Due.is("words of 4 LETTERS", x.off(15) >= 0 ? 1 : 0, 1);
        Due.is("words of 4 LETTERS, one more", x.off(16), MixedWords.BAD);
        Due.is("redo() behind letters", x.redo(), MixedWords.NOT);
        Due.is("undo() behind letters", x.undo(), MixedWords.NOT);
        Due.is("the table stays", x.told(1, 0), 3);
        Due.is("HEARD stays", x.told(0, 2), 7);
        x.set(0, 0, 9);
        Due.is("letters(4) again", x.letters(4), 4);
        Due.is("undo() behind the same letters", x.undo(), MixedWords.NOT);
        Due.is("letters(2)", x.letters(2), 4);
        Due.is("words of 2 LETTERS", x.off(4), MixedWords.BAD);
    }

    private static void set() {
        MixedWords x = new MixedWords();
        x.table(5, 4);
        Due.is("set(4, 3, 9)", x.set(4, 3, 9), 0);
        Due.is("set(4, 3, -9)", x.set(4, 3, -9), 9);
        Due.is("set(4, 3, 0)", x.set(4, 3, 0), -9);
        Due.is("set(0, 3, 7)", x.set(0, 3, 7), 0);
        Due.is("told(0, 3)", x.told(0, 3), 7);
        Due.is("told(3, 0)", x.told(3, 0), 0);
        x.table(3, 2);
        int[][] wrong = {{3, 0, 1}, {-1, 0, 1}, {0, 2, 1}, {0, -1, 1}, {0, 0, 10}, {0, 0, -10}};
        for (int[] w : wrong) {
            Due.is("set(" + w[0] + ", " + w[1] + ", " + w[2] + ")", x.set(w[0], w[1], w[2]), -101);
        }
        for (int far : FAR) {
            Due.is("set(far, 0, 0)", x.set(far, 0, 0), -101);
            Due.is("set(0, far, 0)", x.set(0, far, 0), -101);
            Due.is("set(0, 0, far)", x.set(0, 0, far), -101);
        }
        Due.is("told(0, 0) stays", x.told(0, 0), 0);
        Due.is("no ACT was taken", x.undo(), MixedWords.NOT);
    }

    private static void hear() {
        MixedWords x = new MixedWords();
        x.table(5, 1);
        Due.is("hear(4, 999)", x.hear(4, 999), 0);
        Due.is("hear(4, -999)", x.hear(4, -999), 999);
        Due.is("hear(4, 5)", x.hear(4, 5), -999);
        Due.is("told(4, 1)", x.told(4, 1), 5);
        Due.is("told(4, 0)", x.told(4, 0), 0);
        x.table(3, 4);
        int[][] wrong = {{3, 0}, {-1, 0}, {0, 1000}, {0, -1000}, {FAR[0], 0}, {FAR[1], 0}, {0, FAR[0]}, {0, FAR[1]}};
        for (int[] w : wrong) {
            Due.is("hear(" + w[0] + ", " + w[1] + ")", x.hear(w[0], w[1]), -10001);
        }
        Due.is("no ACT was taken", x.undo(), MixedWords.NOT);
    }

    private static void told() {
        MixedWords x = Due.of("1,-2,3;4,5,-6", 2, -100, 200);
        int[][] all = {{1, -2, 3, -100}, {4, 5, -6, 200}};
        for (int row = 0; row < 2; row++) {
            for (int column = 0; column < 4; column++) {
                Due.is("told(" + row + ", " + column + ")", x.told(row, column), all[row][column]);
            }
        }
        int[][] wrong = {{2, 0}, {-1, 0}, {0, 4}, {0, -1}, {FAR[0], 0}, {FAR[1], 0}, {0, FAR[0]}, {0, FAR[1]}};
        for (int[] w : wrong) {
            Due.is("told(" + w[0] + ", " + w[1] + ")", x.told(w[0], w[1]), -10001);
        }
    }
}
