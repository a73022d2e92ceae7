/** Promises 11 to 13: off, nearest, soft. */
public final class WordsTest {
    private static final int[] FAR = {Integer.MIN_VALUE, Integer.MAX_VALUE};

    public static void main(String[] args) {
        off();
        nearest();
        soft();
        afterEveryChange();
        Due.end(WordsTest.class);
    }

    private static void off() {
        MixedWords x = Due.of("2", 2, 3);
        Due.is("off(0): (3 + 2)^2", x.off(0), 25);
        Due.is("off(1): (3 - 2)^2", x.off(1), 1);
        Due.is("off(2)", x.off(2), MixedWords.BAD);
        x.letters(4);
        int[] offs = {81, 25, 1, 9};
        for (int word = 0; word < 4; word++) {
            Due.is("off(" + word + ")", x.off(word), offs[word]);
        }
        Due.is("off(4)", x.off(4), MixedWords.BAD);
        Due.is("off(-1)", x.off(-1), MixedWords.BAD);
        for (int far : FAR) {
            Due.is("off(far)", x.off(far), MixedWords.BAD);
        }

        MixedWords high = Due.of("1,0;0,1", 2, 1, -1);
        Due.is("off(2): column 0 is the highest", high.off(2), 0);
        Due.is("off(1)", high.off(1), 8);

        MixedWords most = Due.of("9,9,9,9;9,9,9,9;9,9,9,9;9,9,9,9;9,9,9,9", 4, 999, 999, 999, 999, 999);
        Due.is("off(0) of the most", most.off(0), 5 * 1107 * 1107);
        Due.is("off(255)", most.off(255), 5 * 891 * 891);
        Due.is("off(256)", most.off(256), MixedWords.BAD);
    }

    private static void nearest() {
        MixedWords x = Due.of("2", 4, 3);
        int[] words = {2, 3, 1, 0};
        for (int i = 0; i < 4; i++) {
            Due.is("nearest(" + i + ")", x.nearest(i), words[i]);
        }
        Due.is("nearest(4)", x.nearest(4), MixedWords.BAD);
        Due.is("nearest(-1)", x.nearest(-1), MixedWords.BAD);
        for (int far : FAR) {
            Due.is("nearest(far)", x.nearest(far), MixedWords.BAD);
        }

        MixedWords like = Due.of("0,0,0,0", 4, 5);
        for (int i = 0; i < 256; i++) {
            Due.is("nearest(" + i + ") of like ones", like.nearest(i), i);
        }
        Due.is("nearest(256)", like.nearest(256), MixedWords.BAD);

        // OFF of 1,1 with nothing heard: the sum of both LETTERS, squared.
        MixedWords pairs = Due.of("1,1", 2);
        int[] byOff = {1, 2, 0, 3};
        for (int i = 0; i < 4; i++) {
            Due.is("nearest(" + i + ") of pairs", pairs.nearest(i), byOff[i]);
        }
    }

    private static void soft() {
        MixedWords x = Due.of("2", 4, 3);
        Due.is("soft(0, 0): 1 - 25", x.soft(0, 0), -24);
        Due.is("soft(0, 1): 1 - 9", x.soft(0, 1), -8);
        Due.is("soft(0, 2)", x.soft(0, 2), -100000001);
        Due.is("soft(0, -1)", x.soft(0, -1), -100000001);
        Due.is("soft(1, 0)", x.soft(1, 0), -100000001);
        Due.is("soft(-1, 0)", x.soft(-1, 0), -100000001);
        for (int far : FAR) {
            Due.is("soft(far, 0)", x.soft(far, 0), -100000001);
            Due.is("soft(0, far)", x.soft(0, far), -100000001);
        }
        x.letters(2);
        Due.is("soft(0, 0) of 2 LETTERS: 1 - 25", x.soft(0, 0), -24);
        Due.is("soft(0, 1) of 2 LETTERS", x.soft(0, 1), -100000001);

        // Heard -3 and 1: column 0 is -3 (bits 0, 0), column 1 is 1 (bits 1, 1).
        MixedWords two = Due.of("1,0;0,1", 4, -3, 1);
        Due.is("soft(0, 0): 1 is 4 away", two.soft(0, 0), 16);
        Due.is("soft(0, 1): -1 is 2 away", two.soft(0, 1), 4);
        Due.is("soft(1, 0): -1 is 2 away", two.soft(1, 0), -4);
        Due.is("soft(1, 1): 3 is 2 away", two.soft(1, 1), -4);
    }

    private static void afterEveryChange() {
        MixedWords x = Due.of("1,0;0,1", 2, 5, 5);
        Due.is("nearest(0)", x.nearest(0), 3);
        x.hear(0, -5);
        Due.is("nearest(0) behind hear", x.nearest(0), 1);
        x.undo();
        Due.is("nearest(0) behind undo", x.nearest(0), 3);
        x.redo();
        Due.is("nearest(0) behind redo", x.nearest(0), 1);
        x.set(0, 0, -1);
        Due.is("nearest(0) behind set", x.nearest(0), 3);
        Due.is("soft(0, 0) behind set: 16 - 36", x.soft(0, 0), -20);
        x.letters(4);
        Due.is("nearest(0) behind letters", x.nearest(0), 15);
        Due.is("soft(0, 1) behind letters: (-5 + 1)^2 - (-5 + 3)^2", x.soft(0, 1), 12);
        Due.type(x, "0,1;1,0");
        x.read();
        x.hear(0, 3);
        x.hear(1, -3);
        Due.is("nearest(0) behind read", x.nearest(0), 3);
        x.sheet(0, 1, 6);
        x.item(0, 1, 0, 1);
        x.item(0, 1, 2, -3);
        x.item(0, 1, 4, 1);
        x.item(0, 1, 5, 1);
        x.rows(0, 1, 0);
        Due.is("nearest(0) behind rows", x.nearest(0), 2);
        x.table(2, 2);
        Due.is("nearest(0) behind table", x.nearest(0), 0);
        Due.is("soft(0, 0) behind table", x.soft(0, 0), 0);
    }
}
