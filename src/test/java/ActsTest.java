/** Promises 6 and 7: undo, redo. */
public final class ActsTest {
    public static void main(String[] args) {
        backAndOn();
        anotherAct();
        latestForty();
        ringTurnsTwice();
        forgotten();
        aroundForty();
        bothKindsOfFortyActs();
        anotherActInAFullRing();
        forgottenWhenFull();
        refusedCallsForgetNothing();
        forgottenActsStayAway();
        lookingTakesNoAct();
        Due.end(ActsTest.class);
    }

    private static void backAndOn() {
        MixedWords x = new MixedWords();
        x.set(0, 1, 3);
        x.hear(1, 50);
        x.set(0, 1, 4);
        Due.is("redo() of nothing", x.redo(), MixedWords.NOT);
        Due.is("undo()", x.undo(), 2);
        Due.is("told(0, 1)", x.told(0, 1), 3);
        Due.is("told(1, 2)", x.told(1, 2), 50);
        Due.is("undo()", x.undo(), 1);
        Due.is("told(1, 2)", x.told(1, 2), 0);
        Due.is("undo()", x.undo(), 0);
        Due.is("told(0, 1)", x.told(0, 1), 0);
        Due.is("undo()", x.undo(), MixedWords.NOT);
        Due.is("redo()", x.redo(), 2);
        Due.is("told(0, 1)", x.told(0, 1), 3);
        Due.is("redo()", x.redo(), 1);
        Due.is("told(1, 2)", x.told(1, 2), 50);
        Due.is("redo()", x.redo(), 0);
        Due.is("told(0, 1)", x.told(0, 1), 4);
        Due.is("redo()", x.redo(), MixedWords.NOT);
        Due.is("undo()", x.undo(), 2);
    }

    private static void anotherAct() {
        MixedWords x = new MixedWords();
        x.set(0, 0, 1);
        x.set(0, 0, 2);
        x.undo();
        Due.is("set that is BAD", x.set(0, 0, 10), -101);
        Due.is("redo() behind a BAD set", x.redo(), 0);
        x.undo();
        Due.is("a set that changes no number", x.set(0, 0, 1), 1);
        Due.is("redo() behind another ACT", x.redo(), MixedWords.NOT);
        Due.is("undo() of it", x.undo(), 1);
        Due.is("told(0, 0)", x.told(0, 0), 1);
        Due.is("hear is an ACT", x.hear(0, 0), 0);
        Due.is("redo() behind hear", x.redo(), MixedWords.NOT);
    }

    private static void latestForty() {
        MixedWords x = new MixedWords();
        for (int k = 1; k <= 45; k++) {
            Due.is("hear", x.hear(0, k), k - 1);
        }
        for (int k = 39; k >= 0; k--) {
            Due.is("undo()", x.undo(), k);
            Due.is("told(0, 2)", x.told(0, 2), k + 5);
        }
        Due.is("undo() of the 41st", x.undo(), MixedWords.NOT);
        Due.is("told(0, 2)", x.told(0, 2), 5);
        for (int k = 39; k >= 0; k--) {
            Due.is("redo()", x.redo(), k);
            Due.is("told(0, 2)", x.told(0, 2), 45 - k);
        }
        Due.is("redo()", x.redo(), MixedWords.NOT);
        x.undo();
        Due.is("hear behind one undo", x.hear(0, 100), 44);
        Due.is("undo()", x.undo(), 39);
        Due.is("told(0, 2)", x.told(0, 2), 44);
    }

    private static void ringTurnsTwice() {
        MixedWords x = new MixedWords();
        for (int k = 1; k <= 130; k++) {
            x.hear(1, k);
        }
        for (int k = 0; k < 10; k++) {
            x.undo();
        }
        for (int k = 0; k < 5; k++) {
            x.hear(1, 200 + k);
        }
        Due.is("undo()", x.undo(), 34);
        for (int k = 33; k >= 0; k--) {
            Due.is("undo()", x.undo(), k);
        }
        Due.is("told(1, 2): ACTS 91 to 120 and five more could be undone", x.told(1, 2), 90);
        Due.is("undo()", x.undo(), MixedWords.NOT);
        Due.is("redo()", x.redo(), 34);
        Due.is("told(1, 2)", x.told(1, 2), 91);
    }

    private static void forgotten() {
        for (int kind = 0; kind < 4; kind++) {
            MixedWords x = new MixedWords();
            x.sheet(0, 1, 6);
            Due.type(x, "1,2");
            x.set(0, 0, 1);
            x.set(0, 0, 2);
            x.undo();
            if (kind == 0) {
                x.table(2, 2);
            } else if (kind == 1) {
                x.letters(2);
            } else if (kind == 2) {
                x.read();
            } else {
                x.rows(0, 1, 0);
            }
            Due.is("undo() behind kind " + kind, x.undo(), MixedWords.NOT);
            Due.is("redo() behind kind " + kind, x.redo(), MixedWords.NOT);
        }
    }

    /** "the latest 40": 39, 40 and 41 ACTS. */
    private static void aroundForty() {
        for (int acts = 39; acts <= 41; acts++) {
            MixedWords x = new MixedWords();
            for (int k = 1; k <= acts; k++) {
                x.hear(1, k);
            }
            int can = Math.min(acts, 40);
            for (int k = can - 1; k >= 0; k--) {
                Due.is("undo() of " + acts, x.undo(), k);
            }
            Due.is("undo() past the first of " + acts, x.undo(), MixedWords.NOT);
            Due.is("told(1, 2) then", x.told(1, 2), acts - can);
            for (int k = can - 1; k >= 0; k--) {
                Due.is("redo() of " + acts, x.redo(), k);
            }
            Due.is("redo() past the last of " + acts, x.redo(), MixedWords.NOT);
            Due.is("told(1, 2) then", x.told(1, 2), acts);
        }
    }

    /** set() and hear() share the 40. */
    private static void bothKindsOfFortyActs() {
        MixedWords x = new MixedWords();
        x.table(5, 4);
        for (int row = 0; row < 5; row++) {
            for (int column = 0; column < 4; column++) {
                Due.is("set", x.set(row, column, row + column + 1), 0);
            }
            Due.is("hear", x.hear(row, 100 + row), 0);
        }
        for (int row = 0; row < 5; row++) {
            Due.is("hear again", x.hear(row, -100 - row), 100 + row);
            for (int column = 3; column >= 0; column--) {
                Due.is("set again", x.set(row, column, -row - column - 1), row + column + 1);
            }
        }
        for (int k = 39; k >= 0; k--) {
            Due.is("undo() of 50", x.undo(), k);
        }
        Due.is("undo() of the 41st of 50", x.undo(), MixedWords.NOT);
        for (int row = 0; row < 5; row++) {
            for (int column = 0; column < 4; column++) {
                Due.is("told: rows 0 and 1 were set before the 40", x.told(row, column), row < 2 ? row + column + 1 : 0);
            }
            Due.is("told of HEARD", x.told(row, 4), row < 2 ? 100 + row : 0);
        }
    }

    /** "till another ACT is taken", where 40 are kept: those that were UNDONE give their room, and no other is lost. */
    private static void anotherActInAFullRing() {
        for (int undone = 0; undone <= 40; undone++) {
            MixedWords x = new MixedWords();
            for (int k = 1; k <= 47; k++) {
                x.hear(0, k);
            }
            for (int k = 0; k < undone; k++) {
                x.undo();
            }
            Due.is("hear behind " + undone + " undone", x.hear(0, 500), 47 - undone);
            Due.is("redo() behind it", x.redo(), MixedWords.NOT);
            int can = Math.min(40, 41 - undone);
            for (int k = can - 1; k >= 0; k--) {
                Due.is("undo() behind it", x.undo(), k);
            }
            Due.is("undo() past the first", x.undo(), MixedWords.NOT);
            Due.is("told(0, 2) then", x.told(0, 2), undone == 0 ? 8 : 7);
        }
    }

    private static MixedWords withFullRing() {
        MixedWords x = new MixedWords();
        x.sheet(0, 1, 6);
        x.item(0, 1, 5, 1000);
        x.sheet(1, 1, 6);
        for (int k = 1; k <= 60; k++) {
            x.hear(0, k);
        }
        for (int k = 0; k < 15; k++) {
            x.undo();
        }
        return x;
    }

    private static void forgottenWhenFull() {
        for (int kind = 0; kind < 4; kind++) {
            MixedWords x = withFullRing();
            Due.type(x, "1,2");
            int[] due = {1, 2, 1, 2};
            int got = kind == 0 ? x.table(2, 2) : kind == 1 ? x.letters(2) : kind == 2 ? x.read() : x.rows(1, 1, 0);
            Due.is("kind " + kind, got, due[kind]);
            Due.is("redo() behind kind " + kind, x.redo(), MixedWords.NOT);
            Due.is("undo() behind kind " + kind, x.undo(), MixedWords.NOT);
            Due.is("an ACT behind kind " + kind, x.hear(0, 9), kind == 1 ? 45 : 0);
            Due.is("undo() of it", x.undo(), 0);
            Due.is("redo() of it", x.redo(), 0);
            Due.is("told of it", x.told(0, 2), 9);
        }
    }

    private static void refusedCallsForgetNothing() {
        for (int kind = 0; kind < 6; kind++) {
            MixedWords x = withFullRing();
            int[] due = {MixedWords.BAD, MixedWords.BAD, MixedWords.NOT, MixedWords.INDEX, -101, -10001};
            int got = kind == 0 ? x.table(6, 2) : kind == 1 ? x.letters(3) : kind == 2 ? x.rows(0, 1, 0)
                : kind == 3 ? x.rows(1, 1, 1) : kind == 4 ? x.set(0, 0, 10) : x.hear(0, 1000);
            Due.is("refused, kind " + kind, got, due[kind]);
            Due.is("redo() behind it", x.redo(), 14);
            Due.is("told(0, 2)", x.told(0, 2), 46);
            Due.is("undo() behind it", x.undo(), 25);
            Due.is("undo() once more", x.undo(), 24);
            Due.is("told(0, 2)", x.told(0, 2), 44);
        }
    }

    private static void forgottenActsStayAway() {
        MixedWords x = new MixedWords();
        x.table(5, 4);
        x.set(4, 3, 7);
        x.hear(4, 77);
        x.table(1, 1);
        Due.is("undo() of a place that is gone", x.undo(), MixedWords.NOT);
        Due.is("set(0, 0, 1)", x.set(0, 0, 1), 0);
        x.undo();
        x.letters(4);
        Due.is("redo() behind letters", x.redo(), MixedWords.NOT);
        Due.is("told(0, 0)", x.told(0, 0), 0);
        x.table(5, 4);
        Due.is("undo() with the old size", x.undo(), MixedWords.NOT);
        Due.is("told(4, 3)", x.told(4, 3), 0);
        Due.is("told(4, 4)", x.told(4, 4), 0);
    }

    /** Only set() and hear() are ACTS. */
    private static void lookingTakesNoAct() {
        MixedWords x = new MixedWords();
        x.set(0, 0, 3);
        x.set(1, 1, 4);
        x.undo();
        x.type('1', 1);
        x.told(0, 0);
        x.off(0);
        x.nearest(0);
        x.soft(0, 0);
        x.gram(0, 0);
        x.worth(1);
        x.undone();
        x.fraction(0, 0);
        x.taken();
        x.order(0);
        x.led();
        x.ledAt(0, 0, 0);
        x.ledWord();
        x.chosen(1);
        x.sheet(0, 0, 6);
        x.item(0, 0, 0, 1);
        x.drop(0);
        Due.is("redo() behind calls that are no ACTS", x.redo(), 0);
        Due.is("told(1, 1)", x.told(1, 1), 4);
        Due.is("undo()", x.undo(), 1);
        Due.is("undo()", x.undo(), 0);
        Due.is("told(0, 0)", x.told(0, 0), 0);
    }
}
