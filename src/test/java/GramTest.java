/** Promises 14 to 17 and 23: gram, worth, undone, fraction, chosen. */
public final class GramTest {
    private static final int[] FAR = {Integer.MIN_VALUE, Integer.MAX_VALUE};
    private static final long NO_COLUMN = -1000000000000001L, NO_WORTH = -1000000000000002L;

    public static void main(String[] args) {
        gram();
        worth();
        undone();
        fraction();
        chosen();
        nearestLetterBesideTheMiddle();
        hangTogether();
        farthest();
        withoutACommonDivisor();
        chosenOfLikeOnes();
        Due.end(GramTest.class);
    }

    private static void gram() {
        MixedWords x = Due.of("1,2,-3;4,0,5");
        int[][] gram = {{17, 2, 17}, {2, 4, -6}, {17, -6, 34}};
        for (int i = 0; i < 3; i++) {
            for (int j = 0; j < 3; j++) {
                Due.is("gram(" + i + ", " + j + ")", x.gram(i, j), gram[i][j]);
            }
        }
        int[][] wrong = {{3, 0}, {0, 3}, {-1, 0}, {0, -1}, {FAR[0], 0}, {0, FAR[0]}, {FAR[1], 0}, {0, FAR[1]}};
        for (int[] w : wrong) {
            Due.is("gram(" + w[0] + ", " + w[1] + ")", x.gram(w[0], w[1]), -10001);
        }
        MixedWords most = Due.of("9,-9;9,-9;9,-9;9,-9;9,-9");
        Due.is("gram(0, 1) of the most", most.gram(0, 1), -405);
    }

    private static void worth() {
        MixedWords x = Due.of("1,2,-3;4,0,5");
        Due.is("worth(1)", x.worth(1), 17);
        Due.is("worth(2)", x.worth(2), 4);
        Due.is("worth(3): the square of 1 * 0 - 2 * 4", x.worth(3), 64);
        Due.is("worth(4)", x.worth(4), 34);
        Due.is("worth(5): the square of 1 * 5 + 3 * 4", x.worth(5), 289);
        Due.is("worth(6): the square of 2 * 5", x.worth(6), 100);
        Due.is("worth(7): three columns of two rows", x.worth(7), 0);
        for (int columns : new int[] {0, 8, -1, 9, FAR[0], FAR[1]}) {
            Due.is("worth(" + columns + ")", x.worth(columns), MixedWords.BAD);
        }
        MixedWords even = Due.of("9,9,9,9;9,-9,9,-9;9,9,-9,-9;9,-9,-9,9");
        Due.is("worth(15) of columns that stand upright", even.worth(15), 324L * 324 * 324 * 324);
    }

    private static void undone() {
        int[][] nearestOfTwo = {{0, 0}, {1, 1}, {-1, 0}, {999, 1}, {-999, 0}};
        for (int[] pair : nearestOfTwo) {
            Due.is("undone() with " + pair[0], Due.of("1", 2, pair[0]).undone(), pair[1]);
        }
        int[][] nearestOfFour = {{-999, 0}, {-3, 0}, {-2, 0}, {-1, 1}, {0, 1}, {1, 2}, {2, 2}, {3, 3}, {999, 3}};
        for (int[] pair : nearestOfFour) {
            Due.is("undone() with " + pair[0], Due.of("1", 4, pair[0]).undone(), pair[1]);
        }
        Due.is("undone() with 1 / 9", Due.of("9", 2, 1).undone(), 1);
        Due.is("undone() with -1 / 9", Due.of("9", 2, -1).undone(), 0);
        Due.is("undone() of two columns", Due.of("1,0;0,1", 4, 3, -1).undone(), 13);
        Due.is("undone() of columns that hang together", Due.of("1,2;2,4", 2, 5, 5).undone(), MixedWords.NOT);
        Due.is("undone() of more columns than rows", Due.of("1,2", 2, 5).undone(), MixedWords.NOT);
        Due.is("undone() of 0s", Due.of("0").undone(), MixedWords.NOT);
    }

    private static void isFraction(MixedWords x, int column, long above, long below) {
        Due.is("fraction(" + column + ", 0)", x.fraction(column, 0), above);
        Due.is("fraction(" + column + ", 1)", x.fraction(column, 1), below);
    }

    private static void fraction() {
        isFraction(Due.of("1", 2, 5), 0, 5, 1);
        isFraction(Due.of("2", 2, 3), 0, 3, 2);
        isFraction(Due.of("-2", 2, 3), 0, -3, 2);
        isFraction(Due.of("-2", 2, -4), 0, 2, 1);
        isFraction(Due.of("7", 2, 0), 0, 0, 1);
        isFraction(Due.of("9;9;9;9;9", 2, 999, 0, 0, 0, 999), 0, 222, 5);
        // 3 x + y = 10, -2 x + 4 y = -7
        MixedWords x = Due.of("3,1;-2,4", 2, 10, -7);
        isFraction(x, 0, 47, 14);
        isFraction(x, 1, -1, 14);
        int[][] wrong = {{2, 0}, {-1, 0}, {0, 2}, {0, -1}, {FAR[0], 0}, {FAR[1], 0}, {0, FAR[0]}, {0, FAR[1]}};
        for (int[] w : wrong) {
            Due.is("fraction(" + w[0] + ", " + w[1] + ")", x.fraction(w[0], w[1]), NO_COLUMN);
        }
        MixedWords none = Due.of("1,2;2,4", 2, 5, 5);
        Due.is("fraction(0, 0) without a WORTH", none.fraction(0, 0), NO_WORTH);
        Due.is("fraction(1, 1) without a WORTH", none.fraction(1, 1), NO_WORTH);
        Due.is("BAD is named before NOT", none.fraction(2, 0), NO_COLUMN);
        Due.is("BAD is named before NOT", none.fraction(0, 2), NO_COLUMN);
    }

    private static void chosen() {
        MixedWords x = Due.of("1,2,-3;4,0,5");
        Due.is("chosen(1)", x.chosen(1), 4);
        Due.is("chosen(2)", x.chosen(2), 5);
        Due.is("chosen(3): of no WORTH, but all there are", x.chosen(3), 7);
        for (int k : new int[] {0, 4, -1, FAR[0], FAR[1]}) {
            Due.is("chosen(" + k + ")", x.chosen(k), MixedWords.BAD);
        }
        MixedWords like = Due.of("0,0,0,0");
        int[] first = {1, 3, 7, 15};
        for (int k = 1; k <= 4; k++) {
            Due.is("chosen(" + k + ") of like ones", like.chosen(k), first[k - 1]);
        }
        // Columns 0 and 3, and 1 and 2, have 25; all other pairs less.
        MixedWords tie = Due.of("2,2,1,-1;1,-1,2,2");
        Due.is("worth(9)", tie.worth(9), 25);
        Due.is("worth(6)", tie.worth(6), 25);
        Due.is("chosen(2): 0, 3 comes before 1, 2", tie.chosen(2), 9);
        Due.is("chosen(1) of like ones", tie.chosen(1), 1);
        Due.is("chosen(3) of none", tie.chosen(3), 7);
        Due.is("chosen(1) of a later column", Due.of("1,-2,2").chosen(1), 2);
    }

    /** "the nearest LETTER (of two as near the lesser)": the middle itself, and a ninth to each side. */
    private static void nearestLetterBesideTheMiddle() {
        int[][] middles = {{2, 0, 0}, {4, -2, 0}, {4, 0, 1}, {4, 2, 2}};
        for (int[] m : middles) {
            Due.is("undone() in the middle", Due.of("9", m[0], 9 * m[1]).undone(), m[2]);
            Due.is("undone() a ninth below", Due.of("9", m[0], 9 * m[1] - 1).undone(), m[2]);
            Due.is("undone() a ninth above", Due.of("9", m[0], 9 * m[1] + 1).undone(), m[2] + 1);
            Due.is("undone() in the middle, by -9", Due.of("-9", m[0], -9 * m[1]).undone(), m[2]);
            Due.is("undone() a ninth above, by -9", Due.of("-9", m[0], -9 * m[1] - 1).undone(), m[2] + 1);
        }
        for (int side = -1; side <= 1; side += 2) {
            int outermost = side < 0 ? 0 : 3;
            Due.is("undone() beyond the last LETTER", Due.of("1", 4, 4 * side).undone(), outermost);
            Due.is("undone() far beyond the last LETTER", Due.of("1", 4, 999 * side).undone(), outermost);
            Due.is("undone() at the last LETTER", Due.of("1", 4, 3 * side).undone(), outermost);
        }
        // x is the half of what both rows heard.
        Due.is("undone() of 3 and -3", Due.of("1;1", 4, 3, -3).undone(), 1);
        Due.is("undone() of 3 and 1: 2 is the middle", Due.of("1;1", 4, 3, 1).undone(), 2);
        Due.is("undone() of 3 and 2", Due.of("1;1", 4, 3, 2).undone(), 3);
        Due.is("undone() of -3 and -2", Due.of("1;1", 4, -3, -2).undone(), 0);
    }

    /** THE WORTH is 0: one column of 0s, two alike, one that is the others' sum, more columns than rows. */
    private static void hangTogether() {
        String[] tables = {
            "0", "0;0;0;0;0", "1,0;2,0", "3,3;4,4", "3,-3;4,-4", "3,6;1,2", "1,2,3;4,5,9;7,1,8;1,1,2",
            "1,0,1;0,1,1;0,0,0", "1,2", "1,2,3;4,5,6", "1,2,3,4;4,3,2,1;1,1,1,2", "1,0,0,1;0,1,0,1;0,0,1,1;0,0,0,0;0,0,0,0",
            "9,9,9,9;9,9,9,9;9,9,9,9;9,9,9,9;9,9,9,9",
        };
        for (String table : tables) {
            int m = table.split(";")[0].split(",").length;
            MixedWords x = Due.of(table, 4);
            x.hear(0, 5);
            Due.is("worth of all columns of " + table, x.worth((1 << m) - 1), 0);
            Due.is("undone() of " + table, x.undone(), MixedWords.NOT);
            Due.is("ledWord() of " + table, x.ledWord(), MixedWords.NOT);
            for (int column = 0; column < m; column++) {
                Due.is("fraction above of " + table, x.fraction(column, 0), NO_WORTH);
                Due.is("fraction below of " + table, x.fraction(column, 1), NO_WORTH);
            }
            Due.is("fraction of column M of " + table, x.fraction(m, 0), NO_COLUMN);
        }
        // As near to hanging together as whole numbers come.
        MixedWords near = Due.of("9,8;8,7", 2, 1, 1);
        Due.is("worth(3) of 9,8;8,7", near.worth(3), 1);
        isFraction(near, 0, 1, 1);
        isFraction(near, 1, -1, 1);
    }

    private static void farthest() {
        MixedWords most = Due.of("9,9,9,9;9,-9,9,-9;9,9,-9,-9;9,-9,-9,9;9,9,9,-9", 2, 999, 999, 999, 999, -999);
        Due.is("gram(0, 0) of the most", most.gram(0, 0), 405);
        Due.is("gram(3, 3) of the most", most.gram(3, 3), 405);
        Due.is("gram(0, 3) of the most", most.gram(0, 3), -81);
        // 324 along the main line, 0 beside, and 81 times the signs of row 4: 324^4 and 4 * 81 * 324^3.
        Due.is("worth(15) of the most", most.worth(15), 324L * 324 * 324 * 324 * 2);
        Due.is("worth(1) of the most", most.worth(1), 405);
        Due.is("worth(-1)", most.worth(-1), MixedWords.BAD);
        Due.is("worth(16)", most.worth(16), MixedWords.BAD);
        Due.is("worth(17)", most.worth(17), MixedWords.BAD);
        isFraction(Due.of("1", 2, 999), 0, 999, 1);
        isFraction(Due.of("1", 2, -999), 0, -999, 1);
        // 9 x + 8 y = 999, 8 x + 7 y = -999; THE WORTH is 1.
        isFraction(Due.of("9,8;8,7", 2, 999, -999), 0, -999 * 15, 1);
        isFraction(Due.of("9,8;8,7", 2, 999, -999), 1, 999 * 17, 1);
    }

    /** "without a common divisor, below above 0", with 0 above too. */
    private static void withoutACommonDivisor() {
        for (int v = -9; v <= 9; v++) {
            for (int h = -20; h <= 20; h++) {
                if (v == 0) {
                    continue;
                }
                MixedWords x = Due.of("" + v, 2, h);
                long above = x.fraction(0, 0);
                long below = x.fraction(0, 1);
                Due.holds(h + " by " + v + " has " + below + " above 0 below", below > 0);
                Due.is(h + " by " + v + ": the same fraction", above * v, below * h);
                Due.is(h + " by " + v + ": no common divisor", divisor(Math.abs(above), below), 1);
            }
        }
        isFraction(Due.of("9;9", 2, 0, 0), 0, 0, 1);
        isFraction(Due.of("1,1;1,-1", 2, 4, 4), 0, 4, 1);
        isFraction(Due.of("1,1;1,-1", 2, 4, 4), 1, 0, 1);
        isFraction(Due.of("2,0;0,3", 2, -1, 1), 0, -1, 2);
        isFraction(Due.of("2,0;0,3", 2, -1, 1), 1, 1, 3);
    }

    private static long divisor(long a, long b) {
        return b == 0 ? a : divisor(b, a % b);
    }

    /** "of like ones the first by numbers": every pair and every three that could be first, all others being less. */
    private static void chosenOfLikeOnes() {
        for (int k = 1; k <= 4; k++) {
            Due.is("chosen(" + k + ") of columns that stand upright", Due.of("1,0,0,0;0,1,0,0;0,0,1,0;0,0,0,1").chosen(k), (1 << k) - 1);
            Due.is("chosen(" + k + ") of columns all alike", Due.of("2,2,2,2;1,1,1,1").chosen(k), (1 << k) - 1);
        }
        Due.is("chosen(1) of 1, 2, 2, 1", Due.of("1,2,2,1").chosen(1), 2);
        Due.is("chosen(1) of 1, 2, -3, 3", Due.of("1,2,-3,3").chosen(1), 4);
        Due.is("chosen(1) of 1, 2, 3, 4", Due.of("1,2,3,4").chosen(1), 8);
        Due.is("chosen(2): 0, 2 before 1, 2", Due.of("1,1,0;0,0,1").chosen(2), 5);
        Due.is("chosen(2): 0, 1 before 0, 2", Due.of("1,0,0;0,1,1").chosen(2), 3);
        Due.is("chosen(2): 1, 3 before 2, 3", Due.of("0,1,1,0;0,0,0,1").chosen(2), 10);
        Due.is("chosen(3): 0, 1, 3 before 0, 2, 3", Due.of("1,0,0,0;0,1,1,0;0,0,0,1").chosen(3), 11);
        Due.is("chosen(3): 0, 2, 3 before 1, 2, 3", Due.of("1,1,0,0;0,0,1,0;0,0,0,1").chosen(3), 13);
        Due.is("chosen(3): 1, 2, 3 alone", Due.of("0,1,0,0;0,0,1,0;0,0,0,1").chosen(3), 14);
        Due.is("chosen(4) of WORTH 0", Due.of("1,1,1,1").chosen(4), 15);
        Due.is("chosen(1) of one column of 0s", Due.of("0").chosen(1), 1);
    }
}
