/** Promises 18 and 19: taken, order. */
public final class TakenTest {
    public static void main(String[] args) {
        nearestLetter();
        oneAfterTheOther();
        columnsOfNoughts();
        order();
        Due.end(TakenTest.class);
    }

    private static void nearestLetter() {
        int[][] ofTwo = {{0, 0}, {1, 1}, {-1, 0}, {999, 1}, {-999, 0}};
        for (int[] pair : ofTwo) {
            Due.is("taken() with " + pair[0], Due.of("1", 2, pair[0]).taken(), pair[1]);
        }
        int[][] ofFour = {{-999, 0}, {-2, 0}, {-1, 1}, {0, 1}, {1, 2}, {2, 2}, {3, 3}, {999, 3}};
        for (int[] pair : ofFour) {
            Due.is("taken() with " + pair[0], Due.of("1", 4, pair[0]).taken(), pair[1]);
        }
    }

    private static void oneAfterTheOther() {
        // Column 1 first: 4 * 3 by 16 is nearest to 1, which leaves -1; then column 0: -1.
        MixedWords x = Due.of("1,4", 2, 3);
        Due.is("taken()", x.taken(), 1);
        Due.is("order(0)", x.order(0), 1);
        Due.is("order(1)", x.order(1), 0);
        // Column 0 first: 2 * 3 by 4 is 1.5, nearest 1, which leaves 1; then column 1: 1.
        Due.is("taken() in the table's order", Due.of("2,1", 2, 3).taken(), 3);
        // 4 LETTERS: 9 * 20 by 81 is nearest to 3, which leaves -7; then 2 * -7 by 4 is -3.5: -3.
        MixedWords y = Due.of("2,9", 4, 20);
        Due.is("taken() of 4 LETTERS", y.taken(), 3);
    }

    private static void columnsOfNoughts() {
        MixedWords x = Due.of("0,1;0,2", 4, 3, 0);
        Due.is("taken(): column 1 has 3 / 5, nearest 1; column 0 is nearest to 0", x.taken(), 6);
        Due.is("order(0)", x.order(0), 1);
        Due.is("order(1)", x.order(1), 0);
        MixedWords all = Due.of("0,0,0", 2, 9);
        Due.is("taken() of 0s", all.taken(), 0);
        for (int i = 0; i < 3; i++) {
            Due.is("order(" + i + ") of like ones", all.order(i), i);
        }
        all.letters(4);
        Due.is("taken() of 0s with 4 LETTERS: -1 of each", all.taken(), 21);
    }

    private static void order() {
        MixedWords x = Due.of("1,3,-3,2");
        int[] due = {1, 2, 3, 0};
        for (int i = 0; i < 4; i++) {
            Due.is("order(" + i + ")", x.order(i), due[i]);
        }
        for (int i : new int[] {4, -1, Integer.MIN_VALUE, Integer.MAX_VALUE}) {
            Due.is("order(" + i + ")", x.order(i), MixedWords.BAD);
        }
        Due.is("order(1) of one column", Due.of("1").order(1), MixedWords.BAD);
    }
}
