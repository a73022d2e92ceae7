/** Promises 14 to 17 and 23: gram, worth, undone, fraction, chosen. */
public final class GramTest {
    private static final int[] FAR = {Integer.MIN_VALUE, Integer.MAX_VALUE};
    private static final long NO_COLUMN = -1000000000000001L, NO_WORTH = -1000000000000002L;

    public static void main(String[] args) {
        gram();
        worth();
        undone();
        fraction();
        chosen();
        Due.end(GramTest.class);
    }

    private static void gram() {
        MixedWords x = Due.of("1,2,-3;4,0,5");
        int[][] gram = {{17, 2, 17}, {2, 4, -6}, {17, -6, 34}};
        for (int i = 0; i < 3; i++) {
            for (int j = 0; j < 3; j++) {
                Due.is("gram(" + i + ", " + j + ")", x.gram(i, j), gram[i][j]);
            }
        }
        int[][] wrong = {{3, 0}, {0, 3}, {-1, 0}, {0, -1}, {FAR[0], 0}, {0, FAR[0]}, {FAR[1], 0}, {0, FAR[1]}};
        for (int[] w : wrong) {
            Due.is("gram(" + w[0] + ", " + w[1] + ")", x.gram(w[0], w[1]), -10001);
        }
        MixedWords most = Due.of("9,-9;9,-9;9,-9;9,-9;9,-9");
        Due.is("gram(0, 1) of the most", most.gram(0, 1), -405);
    }

    private static void worth() {
        MixedWords x = Due.of("1,2,-3;4,0,5");
        Due.is("worth(1)", x.worth(1), 17);
        Due.is("worth(2)", x.worth(2), 4);
        Due.is("worth(3): the square of 1 * 0 - 2 * 4", x.worth(3), 64);
        Due.is("worth(4)", x.worth(4), 34);
        Due.is("worth(5): the square of 1 * 5 + 3 * 4", x.worth(5), 289);
        Due.is("worth(6): the square of 2 * 5", x.worth(6), 100);
        Due.is("worth(7): three columns of two rows", x.worth(7), 0);
        for (int columns : new int[] {0, 8, -1, 9, FAR[0], FAR[1]}) {
            Due.is("worth(" + columns + ")", x.worth(columns), MixedWords.BAD);
        }
        MixedWords even = Due.of("9,9,9,9;9,-9,9,-9;9,9,-9,-9;9,-9,-9,9");
        Due.is("worth(15) of columns that stand upright", even.worth(15), 324L * 324 * 324 * 324);
    }

    private static void undone() {
        int[][] nearestOfTwo = {{0, 0}, {1, 1}, {-1, 0}, {999, 1}, {-999, 0}};
        for (int[] pair : nearestOfTwo) {
            Due.is("undone() with " + pair[0], Due.of("1", 2, pair[0]).undone(), pair[1]);
        }
        int[][] nearestOfFour = {{-999, 0}, {-3, 0}, {-2, 0}, {-1, 1}, {0, 1}, {1, 2}, {2, 2}, {3, 3}, {999, 3}};
        for (int[] pair : nearestOfFour) {
            Due.is("undone() with " + pair[0], Due.of("1", 4, pair[0]).undone(), pair[1]);
        }
        Due.is("undone() with 1 / 9", Due.of("9", 2, 1).undone(), 1);
        Due.is("undone() with -1 / 9", Due.of("9", 2, -1).undone(), 0);
        Due.is("undone() of two columns", Due.of("1,0;0,1", 4, 3, -1).undone(), 13);
        Due.is("undone() of columns that hang together", Due.of("1,2;2,4", 2, 5, 5).undone(), MixedWords.NOT);
        Due.is("undone() of more columns than rows", Due.of("1,2", 2, 5).undone(), MixedWords.NOT);
        Due.is("undone() of 0s", Due.of("0").undone(), MixedWords.NOT);
    }

    private static void isFraction(MixedWords x, int column, long above, long below) {
        Due.is("fraction(" + column + ", 0)", x.fraction(column, 0), above);
        Due.is("fraction(" + column + ", 1)", x.fraction(column, 1), below);
    }

    private static void fraction() {
        isFraction(Due.of("1", 2, 5), 0, 5, 1);
        isFraction(Due.of("2", 2, 3), 0, 3, 2);
        isFraction(Due.of("-2", 2, 3), 0, -3, 2);
        isFraction(Due.of("-2", 2, -4), 0, 2, 1);
        isFraction(Due.of("7", 2, 0), 0, 0, 1);
        isFraction(Due.of("9;9;9;9;9", 2, 999, 0, 0, 0, 999), 0, 222, 5);
        // 3 x + y = 10, -2 x + 4 y = -7
        MixedWords x = Due.of("3,1;-2,4", 2, 10, -7);
        isFraction(x, 0, 47, 14);
        isFraction(x, 1, -1, 14);
        int[][] wrong = {{2, 0}, {-1, 0}, {0, 2}, {0, -1}, {FAR[0], 0}, {FAR[1], 0}, {0, FAR[0]}, {0, FAR[1]}};
        for (int[] w : wrong) {
            Due.is("fraction(" + w[0] + ", " + w[1] + ")", x.fraction(w[0], w[1]), NO_COLUMN);
        }
        MixedWords none = Due.of("1,2;2,4", 2, 5, 5);
        Due.is("fraction(0, 0) without a WORTH", none.fraction(0, 0), NO_WORTH);
        Due.is("fraction(1, 1) without a WORTH", none.fraction(1, 1), NO_WORTH);
        Due.is("BAD is named before NOT", none.fraction(2, 0), NO_COLUMN);
        Due.is("BAD is named before NOT", none.fraction(0, 2), NO_COLUMN);
    }

    private static void chosen() {
        MixedWords x = Due.of("1,2,-3;4,0,5");
        Due.is("chosen(1)", x.chosen(1), 4);
        Due.is("chosen(2)", x.chosen(2), 5);
        Due.is("chosen(3): of no WORTH, but all there are", x.chosen(3), 7);
        for (int k : new int[] {0, 4, -1, FAR[0], FAR[1]}) {
            Due.is("chosen(" + k + ")", x.chosen(k), MixedWords.BAD);
        }
        MixedWords like = Due.of("0,0,0,0");
        int[] first = {1, 3, 7, 15};
        for (int k = 1; k <= 4; k++) {
            Due.is("chosen(" + k + ") of like ones", like.chosen(k), first[k - 1]);
        }
        // Columns 0 and 3, and 1 and 2, have 25; all other pairs less.
        MixedWords tie = Due.of("2,2,1,-1;1,-1,2,2");
        Due.is("worth(9)", tie.worth(9), 25);
        Due.is("worth(6)", tie.worth(6), 25);
        Due.is("chosen(2): 0, 3 comes before 1, 2", tie.chosen(2), 9);
        Due.is("chosen(1) of like ones", tie.chosen(1), 1);
        Due.is("chosen(3) of none", tie.chosen(3), 7);
        Due.is("chosen(1) of a later column", Due.of("1,-2,2").chosen(1), 2);
    }
}
