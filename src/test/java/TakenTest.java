/** Promises 18 and 19: taken, order. */
public final class TakenTest {
    public static void main(String[] args) {
        nearestLetter();
        oneAfterTheOther();
        columnsOfNoughts();
        order();
        besideTheMiddle();
        eachTakenOffTheRest();
        noughtsAmongOthers();
        orderOfLikeOnes();
        farthest();
        takenChangesNothing();
        Due.end(TakenTest.class);
    }

    private static void nearestLetter() {
        int[][] ofTwo = {{0, 0}, {1, 1}, {-1, 0}, {999, 1}, {-999, 0}};
        for (int[] pair : ofTwo) {
            Due.is("taken() with " + pair[0], Due.of("1", 2, pair[0]).taken(), pair[1]);
        }
        int[][] ofFour = {{-999, 0}, {-2, 0}, {-1, 1}, {0, 1}, {1, 2}, {2, 2}, {3, 3}, {999, 3}};
        for (int[] pair : ofFour) {
            Due.is("taken() with " + pair[0], Due.of("1", 4, pair[0]).taken(), pair[1]);
        }
    }

    private static void oneAfterTheOther() {
        // Column 1 first: 4 * 3 by 16 is nearest to 1, which leaves -1; then column 0: -1.
        MixedWords x = Due.of("1,4", 2, 3);
        Due.is("taken()", x.taken(), 1);
        Due.is("order(0)", x.order(0), 1);
        Due.is("order(1)", x.order(1), 0);
        // Column 0 first: 2 * 3 by 4 is 1.5, nearest 1, which leaves 1; then column 1: 1.
        Due.is("taken() in the table's order", Due.of("2,1", 2, 3).taken(), 3);
        // 4 LETTERS: 9 * 20 by 81 is nearest to 3, which leaves -7; then 2 * -7 by 4 is -3.5: -3.
        MixedWords y = Due.of("2,9", 4, 20);
        Due.is("taken() of 4 LETTERS", y.taken(), 3);
    }

    private static void columnsOfNoughts() {
        MixedWords x = Due.of("0,1;0,2", 4, 3, 0);
        Due.is("taken(): column 1 has 3 / 5, nearest 1; column 0 is nearest to 0", x.taken(), 6);
        Due.is("order(0)", x.order(0), 1);
        Due.is("order(1)", x.order(1), 0);
        MixedWords all = Due.of("0,0,0", 2, 9);
        Due.is("taken() of 0s", all.taken(), 0);
        for (int i = 0; i < 3; i++) {
            Due.is("order(" + i + ") of like ones", all.order(i), i);
        }
        all.letters(4);
        Due.is("taken() of 0s with 4 LETTERS: -1 of each", all.taken(), 21);
    }

    private static void order() {
        MixedWords x = Due.of("1,3,-3,2");
        int[] due = {1, 2, 3, 0};
        for (int i = 0; i < 4; i++) {
            Due.is("order(" + i + ")", x.order(i), due[i]);
        }
        for (int i : new int[] {4, -1, Integer.MIN_VALUE, Integer.MAX_VALUE}) {
            Due.is("order(" + i + ")", x.order(i), MixedWords.BAD);
        }
        Due.is("order(1) of one column", Due.of("1").order(1), MixedWords.BAD);
    }

    /** "its LETTER is the nearest (of two the lesser)": the middle itself, and a ninth to each side. */
    private static void besideTheMiddle() {
        int[][] middles = {{2, 0, 0}, {4, -2, 0}, {4, 0, 1}, {4, 2, 2}};
        for (int[] m : middles) {
            Due.is("taken() in the middle", Due.of("9", m[0], 9 * m[1]).taken(), m[2]);
            Due.is("taken() a ninth below", Due.of("9", m[0], 9 * m[1] - 1).taken(), m[2]);
            Due.is("taken() a ninth above", Due.of("9", m[0], 9 * m[1] + 1).taken(), m[2] + 1);
            Due.is("taken() in the middle, by -9", Due.of("-9", m[0], -9 * m[1]).taken(), m[2]);
            Due.is("taken() a ninth above, by -9", Due.of("-9", m[0], -9 * m[1] - 1).taken(), m[2] + 1);
        }
    }

    private static void eachTakenOffTheRest() {
        // 7: 1, 3 is left: 1, 1 is left: 1. 3: 1, -1 is left: -1, 1 is left: 1. 0: -1, 4 is left: 1, 2 is left: 1.
        int[][] heard = {{7, 7}, {3, 5}, {0, 3}, {-7, 0}, {999, 7}, {-999, 0}};
        for (int[] h : heard) {
            Due.is("taken() of 4,2,1 with " + h[0], Due.of("4,2,1", 2, h[0]).taken(), h[1]);
        }
        // Column 2, then 1, then 0: the same, and the NUMBER keeps the columns' order.
        int[][] turned = {{7, 7}, {3, 5}, {0, 6}, {-7, 0}};
        for (int[] h : turned) {
            Due.is("taken() of 1,2,4 with " + h[0], Due.of("1,2,4", 2, h[0]).taken(), h[1]);
        }
    }

    /** "a column of 0s: to 0", of which the lesser LETTER is nearest; it takes nothing off. */
    private static void noughtsAmongOthers() {
        int[] twos = {0, 1};
        int[] fours = {4, 7};
        for (int side = 0; side < 2; side++) {
            int h = side == 0 ? -9 : 9;
            Due.is("taken() of 0,1 with 2 LETTERS", Due.of("0,1", 2, h).taken(), twos[side]);
            Due.is("taken() of 0,1 with 4 LETTERS", Due.of("0,1", 4, h).taken(), fours[side]);
        }
        MixedWords x = Due.of("0,2,0,3", 4, 11);
        int[] due = {3, 1, 0, 2};
        for (int i = 0; i < 4; i++) {
            Due.is("order(" + i + ")", x.order(i), due[i]);
        }
        // 33 / 9 is nearest to 3, which leaves 2; 4 / 4 is 1; the others have -1.
        Due.is("taken() of 0,2,0,3", x.taken(), 64 + 2 * 16 + 4 + 3);
        for (int m = 1; m <= 4; m++) {
            MixedWords all = new MixedWords();
            all.table(5, m);
            for (int row = 0; row < 5; row++) {
                all.hear(row, 999);
            }
            Due.is("taken() of " + m + " columns of 0s, 2 LETTERS", all.taken(), 0);
            all.letters(4);
            Due.is("taken() of " + m + " columns of 0s, 4 LETTERS", all.taken(), ((1 << 2 * m) - 1) / 3);
            Due.is("order of the last", all.order(m - 1), m - 1);
            Due.is("order of one more", all.order(m), MixedWords.BAD);
        }
    }

    private static void isOrder(String table, int... due) {
        MixedWords x = Due.of(table);
        for (int i = 0; i < due.length; i++) {
            Due.is("order(" + i + ") of " + table, x.order(i), due[i]);
        }
        Due.is("order behind the last of " + table, x.order(due.length), MixedWords.BAD);
    }

    /** "that of the greatest sum of squares (of like ones the least)". */
    private static void orderOfLikeOnes() {
        isOrder("8,-9", 1, 0);
        isOrder("3,2,0;0,2,3", 0, 2, 1);
        isOrder("0,2,3;3,2,0", 0, 2, 1);
        isOrder("1,-1,1,-1", 0, 1, 2, 3);
        isOrder("1,2,1,2", 1, 3, 0, 2);
        isOrder("1,2,3,4", 3, 2, 1, 0);
        isOrder("4,3,2,1", 0, 1, 2, 3);
        isOrder("1,5,3;0,0,4", 1, 2, 0);
        isOrder("5,0,4;0,5,3", 0, 1, 2);
    }

    private static void farthest() {
        String nines = "9,9,9,9;9,9,9,9;9,9,9,9;9,9,9,9;9,9,9,9";
        Due.is("taken() of the most", Due.of(nines, 4, 999, 999, 999, 999, 999).taken(), 255);
        Due.is("taken() of the least", Due.of(nines, 4, -999, -999, -999, -999, -999).taken(), 0);
        // Nothing left: -1 first, then 1 off 9, and so on.
        Due.is("taken() of 0 HEARD", Due.of(nines, 2, 0, 0, 0, 0, 0).taken(), 5);
    }

    private static void takenChangesNothing() {
        MixedWords x = Due.of("4,2,1", 2, 3);
        Due.is("taken()", x.taken(), 5);
        Due.is("taken() again", x.taken(), 5);
        Due.is("HEARD stays", x.told(0, 3), 3);
        Due.is("order(0) behind it", x.order(0), 0);
        Due.is("undo() behind it", x.undo(), 0);
        Due.is("taken() behind undo", x.taken(), 3);
    }
}
