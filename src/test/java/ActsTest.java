/** Promises 6 and 7: undo, redo. */
public final class ActsTest {
    public static void main(String[] args) {
        backAndOn();
        anotherAct();
        latestForty();
        ringTurnsTwice();
        forgotten();
        Due.end(ActsTest.class);
    }

    private static void backAndOn() {
        MixedWords x = new MixedWords();
        x.set(0, 1, 3);
        x.hear(1, 50);
        x.set(0, 1, 4);
        Due.is("redo() of nothing", x.redo(), MixedWords.NOT);
        Due.is("undo()", x.undo(), 2);
        Due.is("told(0, 1)", x.told(0, 1), 3);
        Due.is("told(1, 2)", x.told(1, 2), 50);
        Due.is("undo()", x.undo(), 1);
        Due.is("told(1, 2)", x.told(1, 2), 0);
        Due.is("undo()", x.undo(), 0);
        Due.is("told(0, 1)", x.told(0, 1), 0);
        Due.is("undo()", x.undo(), MixedWords.NOT);
        Due.is("redo()", x.redo(), 2);
        Due.is("told(0, 1)", x.told(0, 1), 3);
        Due.is("redo()", x.redo(), 1);
        Due.is("told(1, 2)", x.told(1, 2), 50);
        Due.is("redo()", x.redo(), 0);
        Due.is("told(0, 1)", x.told(0, 1), 4);
        Due.is("redo()", x.redo(), MixedWords.NOT);
        Due.is("undo()", x.undo(), 2);
    }

    private static void anotherAct() {
        MixedWords x = new MixedWords();
        x.set(0, 0, 1);
        x.set(0, 0, 2);
        x.undo();
        Due.is("set that is BAD", x.set(0, 0, 10), -101);
        Due.is("redo() behind a BAD set", x.redo(), 0);
        x.undo();
        Due.is("a set that changes no number", x.set(0, 0, 1), 1);
        Due.is("redo() behind another ACT", x.redo(), MixedWords.NOT);
        Due.is("undo() of it", x.undo(), 1);
        Due.is("told(0, 0)", x.told(0, 0), 1);
        Due.is("hear is an ACT", x.hear(0, 0), 0);
        Due.is("redo() behind hear", x.redo(), MixedWords.NOT);
    }

    private static void latestForty() {
        MixedWords x = new MixedWords();
        for (int k = 1; k <= 45; k++) {
            Due.is("hear", x.hear(0, k), k - 1);
        }
        for (int k = 39; k >= 0; k--) {
            Due.is("undo()", x.undo(), k);
            Due.is("told(0, 2)", x.told(0, 2), k + 5);
        }
        Due.is("undo() of the 41st", x.undo(), MixedWords.NOT);
        Due.is("told(0, 2)", x.told(0, 2), 5);
        for (int k = 39; k >= 0; k--) {
            Due.is("redo()", x.redo(), k);
            Due.is("told(0, 2)", x.told(0, 2), 45 - k);
        }
        Due.is("redo()", x.redo(), MixedWords.NOT);
        x.undo();
        Due.is("hear behind one undo", x.hear(0, 100), 44);
        Due.is("undo()", x.undo(), 39);
        Due.is("told(0, 2)", x.told(0, 2), 44);
    }

    private static void ringTurnsTwice() {
        MixedWords x = new MixedWords();
        for (int k = 1; k <= 130; k++) {
            x.hear(1, k);
        }
        for (int k = 0; k < 10; k++) {
            x.undo();
        }
        for (int k = 0; k < 5; k++) {
            x.hear(1, 200 + k);
        }
        Due.is("undo()", x.undo(), 34);
        for (int k = 33; k >= 0; k--) {
            Due.is("undo()", x.undo(), k);
        }
        Due.is("told(1, 2): ACTS 91 to 120 and five more could be undone", x.told(1, 2), 90);
        Due.is("undo()", x.undo(), MixedWords.NOT);
        Due.is("redo()", x.redo(), 34);
        Due.is("told(1, 2)", x.told(1, 2), 91);
    }

    private static void forgotten() {
        for (int kind = 0; kind < 4; kind++) {
            MixedWords x = new MixedWords();
            x.sheet(0, 1, 6);
            Due.type(x, "1,2");
            x.set(0, 0, 1);
            x.set(0, 0, 2);
            x.undo();
            if (kind == 0) {
                x.table(2, 2);
            } else if (kind == 1) {
                x.letters(2);
            } else if (kind == 2) {
                x.read();
            } else {
                x.rows(0, 1, 0);
            }
            Due.is("undo() behind kind " + kind, x.undo(), MixedWords.NOT);
            Due.is("redo() behind kind " + kind, x.redo(), MixedWords.NOT);
        }
    }
}
