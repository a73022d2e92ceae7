/** Promises 20 to 22: led, ledAt, ledWord. */
public final class LedTest {
    private static final int NO_PLACE = -1000001;

    public static void main(String[] args) {
        led();
        firstPair();
        afterAChange();
        wrongPlaces();
        ledWord();
        nearerToNought();
        columnsOfNoughts();
        columnsAlike();
        everyPairIsDone();
        ledWordBesideTheMiddle();
        ledWordIsHeld();
        ledChangesNothing();
        Due.end(LedTest.class);
    }

    private static void isLed(String table, int times, int[][] columns, int[][] steps) {
        MixedWords x = Due.of(table);
        Due.is("led() of " + table, x.led(), times);
        for (int which = 0; which < 2; which++) {
            int[][] due = which == 0 ? columns : steps;
            for (int row = 0; row < due.length; row++) {
                for (int column = 0; column < due[row].length; column++) {
                    String call = "ledAt(" + which + ", " + row + ", " + column + ") of " + table;
                    Due.is(call, x.ledAt(which, row, column), due[row][column]);
                }
            }
        }
    }

    private static void led() {
        isLed("1,2;0,1", 1, new int[][] {{1, 0}, {0, 1}}, new int[][] {{1, -2}, {0, 1}});
        isLed("2,1", 1, new int[][] {{0, 1}}, new int[][] {{1, 0}, {-2, 1}});
        // 1 / 2 is as near to 0 as to 1: 0.
        isLed("1,2", 1, new int[][] {{1, 0}}, new int[][] {{1, -2}, {0, 1}});
        isLed("2,1;0,2", 0, new int[][] {{2, 1}, {0, 2}}, new int[][] {{1, 0}, {0, 1}});
        // 3 / 2 is as near to 1 as to 2: 1; and -3 / 2 is -1.
        isLed("3,2", 2, new int[][] {{1, 0}}, new int[][] {{1, -2}, {-1, 3}});
        isLed("-3,2", 2, new int[][] {{-1, 0}}, new int[][] {{1, 2}, {1, 3}});
        isLed("0,5", 0, new int[][] {{0, 5}}, new int[][] {{1, 0}, {0, 1}});
        isLed("0,0;0,0", 0, new int[][] {{0, 0}, {0, 0}}, new int[][] {{1, 0}, {0, 1}});
        isLed("7", 0, new int[][] {{7}}, new int[][] {{1}});
        isLed("1,0,4;0,1,3;0,0,1", 2, new int[][] {{1, 0, 0}, {0, 1, 0}, {0, 0, 1}},
            new int[][] {{1, 0, -4}, {0, 1, -3}, {0, 0, 1}});
    }

    private static void firstPair() {
        // 0 by 1 goes first, though 0 by 2 and 1 by 0 would be shorter too; then 1 by 2, then 2 by 1.
        isLed("3,3,2", 3, new int[][] {{0, 1, 0}}, new int[][] {{1, 0, 0}, {-1, 1, -2}, {0, -1, 3}});
    }

    private static void afterAChange() {
        MixedWords x = Due.of("1,2;0,1");
        Due.is("led()", x.led(), 1);
        x.set(0, 1, 0);
        Due.is("led() behind set", x.led(), 0);
        x.undo();
        Due.is("led() behind undo", x.led(), 1);
        x.redo();
        Due.is("ledAt(1, 0, 1) behind redo", x.ledAt(1, 0, 1), 0);
        x.table(3, 3);
        Due.is("ledAt(1, 2, 2) behind table", x.ledAt(1, 2, 2), 1);
        Due.is("ledAt(0, 0, 0) behind table", x.ledAt(0, 0, 0), 0);
    }

    private static void wrongPlaces() {
        MixedWords x = Due.of("1,2;3,4;5,6");
        int[][] wrong = {{2, 0, 0}, {-1, 0, 0}, {0, 3, 0}, {0, -1, 0}, {0, 0, 2}, {0, 0, -1}, {1, 2, 0}, {1, 0, 2}, {1, -1, 0}, {1, 0, -1}};
        for (int[] w : wrong) {
            Due.is("ledAt(" + w[0] + ", " + w[1] + ", " + w[2] + ")", x.ledAt(w[0], w[1], w[2]), NO_PLACE);
        }
        Due.holds("ledAt(0, 2, 1) is there", x.ledAt(0, 2, 1) != NO_PLACE);
        for (int far : new int[] {Integer.MIN_VALUE, Integer.MAX_VALUE}) {
            Due.is("ledAt(far, 0, 0)", x.ledAt(far, 0, 0), NO_PLACE);
            Due.is("ledAt(0, far, 0)", x.ledAt(0, far, 0), NO_PLACE);
            Due.is("ledAt(0, 0, far)", x.ledAt(0, 0, far), NO_PLACE);
            Due.is("ledAt(1, far, 0)", x.ledAt(1, far, 0), NO_PLACE);
        }
        MixedWords wide = Due.of("1,0,0");
        Due.is("ledAt(0, 1, 0) of one row", wide.ledAt(0, 1, 0), NO_PLACE);
        Due.is("ledAt(1, 2, 2) of one row", wide.ledAt(1, 2, 2), 1);
    }

    private static void ledWord() {
        // Half of 0 + 1: of 0 and 1 the lesser.
        int[][] ofTwo = {{0, 0}, {1, 1}, {-1, 0}, {999, 1}, {-999, 0}};
        for (int[] pair : ofTwo) {
            Due.is("ledWord() with " + pair[0], Due.of("1", 2, pair[0]).ledWord(), pair[1]);
        }
        int[][] ofFour = {{-999, 0}, {-3, 0}, {-2, 0}, {-1, 1}, {0, 1}, {1, 2}, {2, 2}, {3, 3}, {999, 3}};
        for (int[] pair : ofFour) {
            Due.is("ledWord() with " + pair[0], Due.of("1", 4, pair[0]).ledWord(), pair[1]);
        }
        everyWordUnmixed("1,2;0,1", 2);
        everyWordUnmixed("1,2;0,1", 4);
        everyWordUnmixed("9,8,7;8,9,8;7,8,8", 4);
        everyWordUnmixed("5,4,1;2,3,-6;0,7,2;1,1,1", 4);
        everyWordUnmixed("9,8,7,6;8,9,8,7;7,8,9,8;6,7,8,9;1,2,3,4", 4);
        Due.is("ledWord() without a WORTH", Due.of("1,2;2,4", 2, 5, 5).ledWord(), MixedWords.NOT);
        Due.is("ledWord() of more columns than rows", Due.of("1,2", 2, 5).ledWord(), MixedWords.NOT);
        Due.is("ledWord() of 0s", Due.of("0", 2, 5).ledWord(), MixedWords.NOT);
        // Here T carries the rounding: the words of THE TABLE and of the LED columns part ways.
        MixedWords apart = Due.of("5,4,1;2,3,-6;0,7,2;1,1,1", 4);
        Due.is("undone()", apart.undone(), 21);
        Due.is("ledWord()", apart.ledWord(), 37);
    }

    /** What is heard without anything in between is told back by every way that looks at all columns at once. */
    private static void everyWordUnmixed(String table, int letters) {
        MixedWords size = Due.of(table, letters);
        String[] rows = table.split(";");
        int width = rows[0].split(",").length;
        int words = (int) Math.pow(letters, width);
        Due.is("how many words", size.off(words), MixedWords.BAD);
        for (int word = 0; word < words; word += 1 + words / 60) {
            int[] heard = new int[rows.length];
            for (int row = 0; row < rows.length; row++) {
                String[] numbers = rows[row].split(",");
                int rest = word;
                for (int column = width - 1; column >= 0; column--) {
                    heard[row] += Integer.parseInt(numbers[column]) * (2 * (rest % letters) - letters + 1);
                    rest /= letters;
                }
            }
            MixedWords x = Due.of(table, letters, heard);
            Due.is("ledWord() of " + table, x.ledWord(), word);
            Due.is("undone() of " + table, x.undone(), word);
            Due.is("nearest(0) of " + table, x.nearest(0), word);
            Due.is("off of " + table, x.off(word), 0);
        }
    }

    /** "of two as near that nearer to 0". */
    private static void nearerToNought() {
        // -1 / 2 is 0 for column 0 by 1; column 1 by 0 is -2 then.
        isLed("-1,2", 1, new int[][] {{-1, 0}}, new int[][] {{1, 2}, {0, 1}});
        isLed("1,-2", 1, new int[][] {{1, 0}}, new int[][] {{1, 2}, {0, 1}});
        // 5 / 2 is 2, -5 / 2 is -2.
        isLed("5,2", 2, new int[][] {{1, 0}}, new int[][] {{1, -2}, {-2, 5}});
        isLed("-5,2", 2, new int[][] {{-1, 0}}, new int[][] {{1, 2}, {2, 5}});
        // 7 / 2 is 3, 9 / 2 is 4.
        isLed("7,2", 2, new int[][] {{1, 0}}, new int[][] {{1, -2}, {-3, 7}});
        isLed("9,2", 2, new int[][] {{1, 0}}, new int[][] {{1, -2}, {-4, 9}});
        // Half of the sum of squares just is no cause, one more is.
        isLed("1,2;2,0", 0, new int[][] {{1, 2}, {2, 0}}, new int[][] {{1, 0}, {0, 1}});
        isLed("2,1;0,5", 0, new int[][] {{2, 1}, {0, 5}}, new int[][] {{1, 0}, {0, 1}});
        isLed("2,-1;0,5", 0, new int[][] {{2, -1}, {0, 5}}, new int[][] {{1, 0}, {0, 1}});
        isLed("3,2;0,5", 1, new int[][] {{3, -1}, {0, 5}}, new int[][] {{1, -1}, {0, 1}});
    }

    /** "of a column of 0s: 0". */
    private static void columnsOfNoughts() {
        isLed("0", 0, new int[][] {{0}}, new int[][] {{1}});
        isLed("5,0", 0, new int[][] {{5, 0}}, new int[][] {{1, 0}, {0, 1}});
        isLed("0,5,0", 0, new int[][] {{0, 5, 0}}, new int[][] {{1, 0, 0}, {0, 1, 0}, {0, 0, 1}});
        isLed("0,5,5", 1, new int[][] {{0, 0, 5}}, new int[][] {{1, 0, 0}, {0, 1, 0}, {0, -1, 1}});
        isLed("9;9;9;9;9", 0, new int[][] {{9}, {9}, {9}, {9}, {9}}, new int[][] {{1}});
    }

    private static void columnsAlike() {
        isLed("3,3;4,4", 1, new int[][] {{0, 3}, {0, 4}}, new int[][] {{1, 0}, {-1, 1}});
        isLed("3,-3;4,-4", 1, new int[][] {{0, -3}, {0, -4}}, new int[][] {{1, 0}, {1, 1}});
        isLed("2,2,2,2", 3, new int[][] {{0, 0, 0, 2}},
            new int[][] {{1, 0, 0, 0}, {-1, 1, 0, 0}, {0, -1, 1, 0}, {0, 0, -1, 1}});
        isLed("9,9,9,9;9,9,9,9;9,9,9,9;9,9,9,9;9,9,9,9", 3,
            new int[][] {{0, 0, 0, 9}, {0, 0, 0, 9}, {0, 0, 0, 9}, {0, 0, 0, 9}, {0, 0, 0, 9}},
            new int[][] {{1, 0, 0, 0}, {-1, 1, 0, 0}, {0, -1, 1, 0}, {0, 0, -1, 1}});
        isLed("1,9", 1, new int[][] {{1, 0}}, new int[][] {{1, -9}, {0, 1}});
    }

    private static String someTable(int seed) {
        int m = 1 + seed % 4;
        int r = 1 + seed / 4 % 5;
        StringBuilder text = new StringBuilder();
        long state = seed * 7919L + 13;
        for (int k = 0; k < r * m; k++) {
            state = state * 6364136223846793005L + 1442695040888963407L;
            text.append(k == 0 ? "" : k % m == 0 ? ";" : ",").append((state >>> 33) % 19 - 9);
        }
        return text.toString();
    }

    /** "It ends": no pair is left that could get shorter, and T leads THE TABLE's columns to the LED ones. */
    private static void everyPairIsDone() {
        for (int seed = 0; seed < 400; seed++) {
            String table = someTable(seed);
            MixedWords x = Due.of(table);
            int m = 1 + seed % 4;
            int r = 1 + seed / 4 % 5;
            int[][] led = new int[r][m];
            for (int column = 0; column < m; column++) {
                int[] t = new int[m];
                for (int k = 0; k < m; k++) {
                    t[k] = x.ledAt(1, k, column);
                }
                for (int row = 0; row < r; row++) {
                    led[row][column] = x.ledAt(0, row, column);
                    int sum = 0;
                    for (int k = 0; k < m; k++) {
                        sum += x.told(row, k) * t[k];
                    }
                    Due.is("THE TABLE times T of " + table, led[row][column], sum);
                }
            }
            for (int i = 0; i < m; i++) {
                for (int j = 0; j < m; j++) {
                    Due.holds("columns " + i + ", " + j + " of " + table, i == j || isShortest(led, i, j));
                }
            }
        }
    }

    private static boolean isShortest(int[][] led, int i, int j) {
        int products = 0;
        int squares = 0;
        for (int[] row : led) {
            products += row[i] * row[j];
            squares += row[j] * row[j];
        }
        return 2 * Math.abs(products) <= squares || squares == 0;
    }

    /** "each nearest to a whole number (of two the lesser)": by 2, so that one more HEARD is a fourth. */
    private static void ledWordBesideTheMiddle() {
        int[][] twos = {{-3, 0}, {-2, 0}, {-1, 0}, {0, 0}, {1, 1}, {2, 1}, {3, 1}, {4, 1}};
        for (int[] h : twos) {
            Due.is("ledWord() of 2 with " + h[0], Due.of("2", 2, h[0]).ledWord(), h[1]);
        }
        int[][] fours = {{-6, 0}, {-5, 0}, {-4, 0}, {-3, 1}, {-1, 1}, {0, 1}, {1, 2}, {3, 2}, {4, 2}, {5, 3}, {6, 3}};
        for (int[] h : fours) {
            Due.is("ledWord() of 2 with " + h[0], Due.of("2", 4, h[0]).ledWord(), h[1]);
            Due.is("ledWord() of 2 and 0 with " + h[0], Due.of("2;0", 4, h[0], 500).ledWord(), h[1]);
        }
        // By -2 the middle goes to the lesser too: u is 1 of 1 1/2 with 0 HEARD, though the column points down.
        Due.is("ledWord() of -2 with 0", Due.of("-2", 4, 0).ledWord(), 1);
        Due.is("ledWord() of -2 with 4", Due.of("-2", 4, 4).ledWord(), 0);
        Due.is("ledWord() of -2 with -4", Due.of("-2", 4, -4).ledWord(), 2);
    }

    /** "held within -A + 1 .. A - 1", each LETTER by itself. */
    private static void ledWordIsHeld() {
        for (int far : new int[] {7, 8, 9, 10, 14, 100, 999}) {
            Due.is("ledWord() of 2 with " + far, Due.of("2", 4, far).ledWord(), 3);
            Due.is("ledWord() of 2 with " + -far, Due.of("2", 4, -far).ledWord(), 0);
            Due.is("ledWord() of 2 with " + far, Due.of("2", 2, far).ledWord(), 1);
            Due.is("ledWord() of 2 with " + -far, Due.of("2", 2, -far).ledWord(), 0);
        }
        String upright = "1,0,0,0;0,1,0,0;0,0,1,0;0,0,0,1";
        Due.is("ledWord() of both ends", Due.of(upright, 4, 999, -999, 1, -1).ledWord(), 3 * 64 + 2 * 4 + 1);
        Due.is("ledWord() of both ends", Due.of(upright, 2, 999, -999, 999, -999).ledWord(), 10);
        // u is 500, -499, and then -498, 501: held behind T, not before it.
        Due.is("ledWord() of 9,8;8,7", Due.of("9,8;8,7", 2, 999, 999).ledWord(), 2);
        Due.is("ledWord() of 9,8;8,7", Due.of("9,8;8,7", 4, -999, -999).ledWord(), 3);
    }

    private static void ledChangesNothing() {
        MixedWords x = Due.of("3,2", 2, 5);
        Due.is("led()", x.led(), 2);
        Due.is("led() again", x.led(), 2);
        x.ledWord();
        Due.is("told(0, 0) stays", x.told(0, 0), 3);
        Due.is("told(0, 1) stays", x.told(0, 1), 2);
        Due.is("told(0, 2) stays", x.told(0, 2), 5);
        Due.is("gram(0, 1) is THE TABLE's", x.gram(0, 1), 6);
        x.letters(4);
        x.hear(0, -7);
        Due.is("led() behind letters and hear", x.led(), 2);
        Due.is("undo()", x.undo(), 0);
    }
}
