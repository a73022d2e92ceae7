/** Promises 11 to 13: off, nearest, soft. */
public final class WordsTest {
    private static final int[] FAR = {Integer.MIN_VALUE, Integer.MAX_VALUE};

    public static void main(String[] args) {
        off();
        nearest();
        soft();
        afterEveryChange();
        afterTwoChanges();
        bitsOfLetters();
        columnZeroIsTheHighest();
        farthest();
        likeOnesByNumber();
        softOfLikeOnes();
        Due.end(WordsTest.class);
    }

    private static void off() {
        MixedWords x = Due.of("2", 2, 3);
        Due.is("off(0): (3 + 2)^2", x.off(0), 25);
        Due.is("off(1): (3 - 2)^2", x.off(1), 1);
        Due.is("off(2)", x.off(2), MixedWords.BAD);
        x.letters(4);
        int[] offs = {81, 25, 1, 9};
        for (int word = 0; word < 4; word++) {
            Due.is("off(" + word + ")", x.off(word), offs[word]);
        }
        Due.is("off(4)", x.off(4), MixedWords.BAD);
        Due.is("off(-1)", x.off(-1), MixedWords.BAD);
        for (int far : FAR) {
            Due.is("off(far)", x.off(far), MixedWords.BAD);
        }

        MixedWords high = Due.of("1,0;0,1", 2, 1, -1);
        Due.is("off(2): column 0 is the highest", high.off(2), 0);
        Due.is("off(1)", high.off(1), 8);

        MixedWords most = Due.of("9,9,9,9;9,9,9,9;9,9,9,9;9,9,9,9;9,9,9,9", 4, 999, 999, 999, 999, 999);
        Due.is("off(0) of the most", most.off(0), 5 * 1107 * 1107);
        Due.is("off(255)", most.off(255), 5 * 891 * 891);
        Due.is("off(256)", most.off(256), MixedWords.BAD);
    }

    private static void nearest() {
        MixedWords x = Due.of("2", 4, 3);
        int[] words = {2, 3, 1, 0};
        for (int i = 0; i < 4; i++) {
            Due.is("nearest(" + i + ")", x.nearest(i), words[i]);
        }
        Due.is("nearest(4)", x.nearest(4), MixedWords.BAD);
        Due.is("nearest(-1)", x.nearest(-1), MixedWords.BAD);
        for (int far : FAR) {
            Due.is("nearest(far)", x.nearest(far), MixedWords.BAD);
        }

        MixedWords like = Due.of("0,0,0,0", 4, 5);
        for (int i = 0; i < 256; i++) {
            Due.is("nearest(" + i + ") of like ones", like.nearest(i), i);
        }
        Due.is("nearest(256)", like.nearest(256), MixedWords.BAD);

        // OFF of 1,1 with nothing heard: the sum of both LETTERS, squared.
        MixedWords pairs = Due.of("1,1", 2);
        int[] byOff = {1, 2, 0, 3};
        for (int i = 0; i < 4; i++) {
            Due.is("nearest(" + i + ") of pairs", pairs.nearest(i), byOff[i]);
        }
    }

    private static void soft() {
        MixedWords x = Due.of("2", 4, 3);
        Due.is("soft(0, 0): 1 - 25", x.soft(0, 0), -24);
        Due.is("soft(0, 1): 1 - 9", x.soft(0, 1), -8);
        Due.is("soft(0, 2)", x.soft(0, 2), -100000001);
        Due.is("soft(0, -1)", x.soft(0, -1), -100000001);
        Due.is("soft(1, 0)", x.soft(1, 0), -100000001);
        Due.is("soft(-1, 0)", x.soft(-1, 0), -100000001);
        for (int far : FAR) {
            Due.is("soft(far, 0)", x.soft(far, 0), -100000001);
            Due.is("soft(0, far)", x.soft(0, far), -100000001);
        }
        x.letters(2);
        Due.is("soft(0, 0) of 2 LETTERS: 1 - 25", x.soft(0, 0), -24);
        Due.is("soft(0, 1) of 2 LETTERS", x.soft(0, 1), -100000001);

        // Heard -3 and 1: column 0 is -3 (bits 0, 0), column 1 is 1 (bits 1, 1).
        MixedWords two = Due.of("1,0;0,1", 4, -3, 1);
        Due.is("soft(0, 0): 1 is 4 away", two.soft(0, 0), 16);
        Due.is("soft(0, 1): -1 is 2 away", two.soft(0, 1), 4);
        Due.is("soft(1, 0): -1 is 2 away", two.soft(1, 0), -4);
        Due.is("soft(1, 1): 3 is 2 away", two.soft(1, 1), -4);
    }

    private static void afterEveryChange() {
        MixedWords x = Due.of("1,0;0,1", 2, 5, 5);
        Due.is("nearest(0)", x.nearest(0), 3);
        x.hear(0, -5);
        Due.is("nearest(0) behind hear", x.nearest(0), 1);
        x.undo();
        Due.is("nearest(0) behind undo", x.nearest(0), 3);
        x.redo();
        Due.is("nearest(0) behind redo", x.nearest(0), 1);
        x.set(0, 0, -1);
        Due.is("nearest(0) behind set", x.nearest(0), 3);
        Due.is("soft(0, 0) behind set: 16 - 36", x.soft(0, 0), -20);
        x.letters(4);
        Due.is("nearest(0) behind letters", x.nearest(0), 15);
        Due.is("soft(0, 1) behind letters: (-5 + 1)^2 - (-5 + 3)^2", x.soft(0, 1), 12);
        Due.type(x, "0,1;1,0");
        x.read();
        x.hear(0, 3);
        x.hear(1, -3);
        Due.is("nearest(0) behind read", x.nearest(0), 3);
        x.sheet(0, 1, 6);
        x.item(0, 1, 0, 1);
        x.item(0, 1, 2, -3);
        x.item(0, 1, 4, 1);
        x.item(0, 1, 5, 1);
        x.rows(0, 1, 0);
        Due.is("nearest(0) behind rows", x.nearest(0), 2);
        x.table(2, 2);
        Due.is("nearest(0) behind table", x.nearest(0), 0);
        Due.is("soft(0, 0) behind table", x.soft(0, 0), 0);
    }

    /** What was worked out is old also where one change follows another before it is asked for again. */
    private static void afterTwoChanges() {
        for (int second = 0; second < 4; second++) {
            MixedWords x = Due.of("1,0;0,1", 2, 5, 5);
            x.sheet(0, 1, 6);
            Due.type(x, "1,0;0,1");
            Due.is("nearest(0)", x.nearest(0), 3);
            Due.is("led()", x.led(), 0);
            x.set(1, 0, -3);
            int[] due = {1, 2, 2, 2};
            int got = second == 0 ? x.table(2, 2) : second == 1 ? x.letters(4) : second == 2 ? x.read() : x.rows(0, 1, 0);
            Due.is("the second change, kind " + second, got, due[second]);
            // (5 + 1)^2 and (5 - 3 - 1)^2 of the WORD -1, 1.
            Due.is("nearest(0) behind both", x.nearest(0), second == 1 ? 6 : 0);
            Due.is("led() behind both", x.led(), second == 1 ? 1 : 0);
        }
    }

    /** Where just one LETTER fits, SOFT tells its BITS by its sign: below 0 is a 1. */
    private static void bitsOfLetters() {
        int[][] ofTwo = {{-1, 4}, {1, -4}};
        for (int[] l : ofTwo) {
            MixedWords x = Due.of("1", 2, l[0]);
            Due.is("soft(0, 0) of " + l[0], x.soft(0, 0), l[1]);
            Due.is("soft(0, 1) of 2 LETTERS", x.soft(0, 1), -100000001);
        }
        int[][] ofFour = {{-3, 16, 4}, {-1, 4, -4}, {1, -4, -4}, {3, -16, 4}};
        for (int[] l : ofFour) {
            MixedWords x = Due.of("1", 4, l[0]);
            Due.is("soft(0, 0) of " + l[0], x.soft(0, 0), l[1]);
            Due.is("soft(0, 1) of " + l[0], x.soft(0, 1), l[2]);
        }
        for (int column = 0; column < 4; column++) {
            for (int[] l : ofFour) {
                MixedWords x = Due.of("1,0,0,0;0,1,0,0;0,0,1,0;0,0,0,1", 4, 1, 1, 1, 1);
                x.hear(column, l[0]);
                Due.is("soft(" + column + ", 0) of " + l[0], x.soft(column, 0), l[1]);
                Due.is("soft(" + column + ", 1) of " + l[0], x.soft(column, 1), l[2]);
            }
        }
    }

    /** NUMBERS 0 .. A^M - 1: each LETTER's share by its column. */
    private static void columnZeroIsTheHighest() {
        for (int a = 2; a <= 4; a += 2) {
            MixedWords x = Due.of("1,0,0,0;0,1,0,0;0,0,1,0;0,0,0,1", a);
            for (int word = 0; word < a * a * a * a; word += a == 2 ? 1 : 17) {
                MixedWords y = Due.of("1,0,0,0;0,1,0,0;0,0,1,0;0,0,0,1", a);
                int rest = word;
                for (int column = 3; column >= 0; column--) {
                    y.hear(column, 2 * (rest % a) - a + 1);
                    rest /= a;
                }
                Due.is("off(" + word + ")", y.off(word), 0);
                Due.is("nearest(0)", y.nearest(0), word);
                Due.is("off(" + word + ") of nothing heard is the sum of squared LETTERS", x.off(word), squares(word, a));
            }
        }
    }

    private static int squares(int word, int a) {
        int sum = 0;
        int rest = word;
        for (int column = 0; column < 4; column++) {
            int l = 2 * (rest % a) - a + 1;
            sum += l * l;
            rest /= a;
        }
        return sum;
    }

    /** The largest OFF and SOFT that the limits leave, both ways. */
    private static void farthest() {
        String nines = "9,9,9,9;9,9,9,9;9,9,9,9;9,9,9,9;9,9,9,9";
        MixedWords low = Due.of(nines, 4, -999, -999, -999, -999, -999);
        Due.is("off(255) of the least HEARD", low.off(255), 5 * 1107 * 1107);
        Due.is("off(0) of the least HEARD", low.off(0), 5 * 891 * 891);
        Due.is("nearest(0) of the least HEARD", low.nearest(0), 0);
        Due.is("nearest(255) of the least HEARD", low.nearest(255), 255);
        Due.is("soft(3, 0) of the least HEARD", low.soft(3, 0), 5 * (927 * 927 - 891 * 891));
        MixedWords high = Due.of(nines, 4, 999, 999, 999, 999, 999);
        Due.is("nearest(0) of the most HEARD", high.nearest(0), 255);
        Due.is("nearest(255) of the most HEARD", high.nearest(255), 0);
        Due.is("soft(3, 0) of the most HEARD", high.soft(3, 0), 5 * (891 * 891 - 927 * 927));
        Due.is("soft(3, 1) of the most HEARD", high.soft(3, 1), 5 * (909 * 909 - 891 * 891));
        MixedWords one = Due.of("9;9;9;9;9", 4, 999, 999, 999, 999, 999);
        Due.is("soft(0, 0) of one column", one.soft(0, 0), 5 * (972 * 972 - 1008 * 1008));
    }

    /** "of like ones by NUMBER", where several OFFS come more than once. */
    private static void likeOnesByNumber() {
        // OFF is the square of the sum of 4 LETTERS: six WORDS have 0, eight have 4, two have 16.
        MixedWords x = Due.of("1,1,1,1", 2);
        int[] due = {3, 5, 6, 9, 10, 12, 1, 2, 4, 7, 8, 11, 13, 14, 0, 15};
        for (int i = 0; i < 16; i++) {
            Due.is("nearest(" + i + ")", x.nearest(i), due[i]);
        }
        Due.is("nearest(16)", x.nearest(16), MixedWords.BAD);
        MixedWords all = Due.of("3,-5,2,7;1,0,-4,2", 4, 11, -6);
        int before = -1;
        for (int i = 0; i < 100; i++) {
            int word = all.nearest(i);
            int off = all.off(word);
            Due.holds("OFF rises to nearest(" + i + ")", before <= off);
            int next = all.nearest(i + 1);
            Due.holds("like ones by NUMBER behind " + i, all.off(next) > off || next > word);
            before = off;
        }
    }

    private static void softOfLikeOnes() {
        MixedWords zeros = Due.of("0,1", 4, 3);
        Due.is("soft(0, 0) of a column of 0s", zeros.soft(0, 0), 0);
        Due.is("soft(0, 1) of a column of 0s", zeros.soft(0, 1), 0);
        Due.is("soft(0, 0) between two LETTERS", Due.of("1", 2, 0).soft(0, 0), 0);
        Due.is("soft(0, 1) between -3 and -1", Due.of("1", 4, -2).soft(0, 1), 0);
        Due.is("soft(0, 1) between 1 and 3", Due.of("1", 4, 2).soft(0, 1), 0);
    }
}
