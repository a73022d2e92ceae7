/** The Terms' limits at each of the 20 sizes of THE TABLE and both counts of LETTERS: the last that is there, and the next. */
public final class LimitsTest {
    private static final int BAD = MixedWords.BAD, INDEX = MixedWords.INDEX;
    private static final long BAD_FRACTION = -1000000000000001L;

    public static void main(String[] args) {
        for (int r = 1; r <= 5; r++) {
            for (int m = 1; m <= 4; m++) {
                numbers(r, m);
                rowsJustFit(r, m);
                for (int a = 2; a <= 4; a += 2) {
                    words(r, m, a);
                }
                columns(r, m);
                led(r, m);
                readBack(r, m);
            }
        }
        Due.end(LimitsTest.class);
    }

    private static MixedWords of(int r, int m, int a) {
        MixedWords x = new MixedWords();
        Due.is("table(" + r + ", " + m + ")", x.table(r, m), 1);
        Due.is("letters(" + a + ")", x.letters(a), 2);
        return x;
    }

    /** A 1 at the same row and column, as far as there are both; else 0. */
    private static MixedWords upright(int r, int m) {
        MixedWords x = of(r, m, 2);
        for (int column = 0; column < Math.min(r, m); column++) {
            Due.is("set", x.set(column, column, 1), 0);
        }
        return x;
    }

    private static void numbers(int r, int m) {
        MixedWords x = of(r, m, 2);
        String size = " of " + r + " by " + m;
        int[] first = {0, r - 1};
        for (int row : first) {
            for (int column : new int[] {0, m - 1}) {
                int was = x.told(row, column);
                Due.is("set 9" + size, x.set(row, column, 9), was);
                Due.is("set 10" + size, x.set(row, column, 10), -101);
                Due.is("told" + size, x.told(row, column), 9);
                Due.is("set -9" + size, x.set(row, column, -9), 9);
                Due.is("set -10" + size, x.set(row, column, -10), -101);
                Due.is("told" + size, x.told(row, column), -9);
            }
            int was = x.told(row, m);
            Due.is("hear 999" + size, x.hear(row, 999), was);
            Due.is("hear 1000" + size, x.hear(row, 1000), -10001);
            Due.is("told at column M" + size, x.told(row, m), 999);
            Due.is("hear -999" + size, x.hear(row, -999), 999);
            Due.is("hear -1000" + size, x.hear(row, -1000), -10001);
            Due.is("told at column M" + size, x.told(row, m), -999);
        }
        Due.is("set at column M" + size, x.set(0, m, 1), -101);
        Due.is("set at row R" + size, x.set(r, 0, 1), -101);
        Due.is("hear at row R" + size, x.hear(r, 1), -10001);
        Due.is("told at column M + 1" + size, x.told(0, m + 1), -10001);
        Due.is("told at row R" + size, x.told(r, 0), -10001);
        Due.is("told at row R, column M" + size, x.told(r, m), -10001);
        Due.is("told at column -1" + size, x.told(0, -1), -10001);
        Due.is("told at row -1" + size, x.told(-1, m), -10001);
    }

    private static void rowsJustFit(int r, int m) {
        int count = r * (m + 1);
        MixedWords x = of(r, m, 2);
        String size = " of " + r + " by " + m;
        for (int lane = 0; lane < 3; lane++) {
            Due.is("sheet" + size, x.sheet(lane, lane, count), count);
            Due.is("item, the last" + size, x.item(lane, lane, count - 1, 100 + lane), 1);
            Due.is("item, one more" + size, x.item(lane, lane, count, 1), INDEX);
            Due.is("rows" + size, x.rows(lane, lane, 0), r);
            Due.is("the last is HEARD" + size, x.told(r - 1, m), 100 + lane);
            Due.is("rows from 1" + size, x.rows(lane, lane, 1), INDEX);
            Due.is("rows from -1" + size, x.rows(lane, lane, -1), INDEX);
            Due.is("sheet, one less" + size, x.sheet(lane, lane, count - 1), count - 1);
            Due.is("rows, one less" + size, x.rows(lane, lane, 0), INDEX);
        }
        Due.is("sheet of 25", x.sheet(3, 1, 25), 25);
        Due.is("item 24 of 25", x.item(3, 1, 24, -999), 1);
        Due.is("rows, the last place" + size, x.rows(3, 1, 25 - count), r);
        Due.is("the last is HEARD" + size, x.told(r - 1, m), -999);
        Due.is("rows, behind the last place" + size, x.rows(3, 1, 26 - count), INDEX);
    }

    private static void words(int r, int m, int a) {
        MixedWords x = of(r, m, a);
        int words = (int) Math.pow(a, m);
        String size = " of " + m + " columns, " + a + " LETTERS";
        Due.is("set", x.set(0, m - 1, 1), 0);
        Due.is("hear", x.hear(0, a - 1), 0);
        int most = 2 * (a - 1);
        Due.is("off(0)" + size, x.off(0), most * most);
        Due.is("off, the last" + size, x.off(words - 1), 0);
        Due.is("off, one more" + size, x.off(words), BAD);
        Due.is("off(-1)" + size, x.off(-1), BAD);
        Due.is("nearest(0)" + size, x.nearest(0), a - 1);
        Due.is("nearest, the last" + size, x.nearest(words - 1), words - a);
        Due.is("nearest, one more" + size, x.nearest(words), BAD);
        Due.is("nearest(-1)" + size, x.nearest(-1), BAD);
        int bits = a / 2;
        Due.is("soft, the first bit" + size, x.soft(m - 1, 0), a == 2 ? -4 : -16);
        Due.is("soft, the last bit" + size, x.soft(m - 1, bits - 1), a == 2 ? -4 : 4);
        Due.is("soft, one bit more" + size, x.soft(m - 1, bits), -100000001);
        Due.is("soft, bit -1" + size, x.soft(m - 1, -1), -100000001);
        Due.is("soft of column M" + size, x.soft(m, 0), -100000001);
        Due.is("soft of column -1" + size, x.soft(-1, 0), -100000001);
    }

    private static void columns(int r, int m) {
        MixedWords x = upright(r, m);
        String size = " of " + r + " by " + m;
        int last = m <= r ? 1 : 0;
        Due.is("gram, the last" + size, x.gram(m - 1, m - 1), last);
        Due.is("gram(M, 0)" + size, x.gram(m, 0), -10001);
        Due.is("gram(0, M)" + size, x.gram(0, m), -10001);
        Due.is("gram(-1, 0)" + size, x.gram(-1, 0), -10001);
        Due.is("gram(0, -1)" + size, x.gram(0, -1), -10001);
        Due.is("worth of column 0" + size, x.worth(1), 1);
        Due.is("worth of all" + size, x.worth((1 << m) - 1), last);
        Due.is("worth of one column more" + size, x.worth(1 << m), BAD);
        Due.is("worth of none" + size, x.worth(0), BAD);
        Due.is("undone" + size, x.undone(), last == 1 ? 0 : MixedWords.NOT);
        Due.is("ledWord" + size, x.ledWord(), last == 1 ? 0 : MixedWords.NOT);
        Due.is("fraction, the last" + size, x.fraction(m - 1, 1), last == 1 ? 1 : -1000000000000002L);
        Due.is("fraction(M, 0)" + size, x.fraction(m, 0), BAD_FRACTION);
        Due.is("fraction(-1, 0)" + size, x.fraction(-1, 0), BAD_FRACTION);
        Due.is("fraction(0, 2)" + size, x.fraction(0, 2), BAD_FRACTION);
        Due.is("fraction(0, -1)" + size, x.fraction(0, -1), BAD_FRACTION);
        Due.is("order, the last" + size, x.order(m - 1), m - 1);
        Due.is("order(M)" + size, x.order(m), BAD);
        Due.is("order(-1)" + size, x.order(-1), BAD);
        Due.is("chosen of one" + size, x.chosen(1), 1);
        Due.is("chosen of all" + size, x.chosen(m), (1 << m) - 1);
        Due.is("chosen of one more" + size, x.chosen(m + 1), BAD);
        Due.is("chosen of none" + size, x.chosen(0), BAD);
    }

    private static void led(int r, int m) {
        MixedWords x = upright(r, m);
        String size = " of " + r + " by " + m;
        Due.is("led" + size, x.led(), 0);
        Due.is("ledAt of LED, the last" + size, x.ledAt(0, r - 1, m - 1), r == m ? 1 : 0);
        Due.is("ledAt of LED, row R" + size, x.ledAt(0, r, 0), -1000001);
        Due.is("ledAt of LED, column M" + size, x.ledAt(0, 0, m), -1000001);
        Due.is("ledAt of T, the last" + size, x.ledAt(1, m - 1, m - 1), 1);
        Due.is("ledAt of T, row M" + size, x.ledAt(1, m, 0), -1000001);
        Due.is("ledAt of T, column M" + size, x.ledAt(1, 0, m), -1000001);
        for (int which = 0; which < 2; which++) {
            Due.is("ledAt, row -1" + size, x.ledAt(which, -1, 0), -1000001);
            Due.is("ledAt, column -1" + size, x.ledAt(which, 0, -1), -1000001);
        }
        Due.is("ledAt of -1" + size, x.ledAt(-1, 0, 0), -1000001);
        Due.is("ledAt of 2" + size, x.ledAt(2, 0, 0), -1000001);
    }

    /** A text of this size is read, and all that a size of 5 by 4 had before is gone. */
    private static void readBack(int r, int m) {
        MixedWords x = Due.of("9,9,9,9;9,9,9,9;9,9,9,9;9,9,9,9;9,9,9,9", 2, 999, 999, 999, 999, 999);
        StringBuilder text = new StringBuilder();
        for (int k = 0; k < r * m; k++) {
            text.append(k == 0 ? "" : k % m == 0 ? ";" : ",").append(k % 19 - 9);
        }
        Due.type(x, text.toString());
        Due.is("read() of '" + text + "'", x.read(), r);
        for (int row = 0; row <= 5; row++) {
            for (int column = 0; column <= 5; column++) {
                boolean isThere = row < r && column <= m;
                int due = !isThere ? -10001 : column == m ? 0 : (row * m + column) % 19 - 9;
                Due.is("told(" + row + ", " + column + ") of '" + text + "'", x.told(row, column), due);
            }
        }
    }
}
