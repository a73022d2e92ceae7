/** Promise 1. */
public final class NewObjectTest {
    public static void main(String[] args) {
        MixedWords x = new MixedWords();
        for (int row = 0; row < 2; row++) {
            for (int column = 0; column <= 2; column++) {
                Due.is("told(" + row + ", " + column + ")", x.told(row, column), 0);
            }
        }
        Due.is("told(2, 0)", x.told(2, 0), -10001);
        Due.is("told(0, 3)", x.told(0, 3), -10001);
        Due.is("off(3): A is 2, M is 2", x.off(3), 0);
        Due.is("off(4)", x.off(4), MixedWords.BAD);
        for (int i = 0; i < 4; i++) {
            Due.is("nearest(" + i + ")", x.nearest(i), i);
        }
        Due.is("soft(1, 0)", x.soft(1, 0), 0);
        Due.is("ledAt(1, 0, 0)", x.ledAt(1, 0, 0), 1);
        Due.is("ledAt(1, 0, 1)", x.ledAt(1, 0, 1), 0);
        Due.is("ledAt(0, 1, 1)", x.ledAt(0, 1, 1), 0);
        Due.is("ledAt(1, 1, 1)", x.ledAt(1, 1, 1), 1);
        Due.is("ledAt(1, 2, 0): M is 2", x.ledAt(1, 2, 0), -1000001);
        Due.is("led()", x.led(), 0);
        Due.is("soft(0, 1): A is 2", x.soft(0, 1), -100000001);
        Due.is("gram(1, 1)", x.gram(1, 1), 0);
        Due.is("worth(3)", x.worth(3), 0);
        Due.is("worth(4)", x.worth(4), MixedWords.BAD);
        Due.is("undone()", x.undone(), MixedWords.NOT);
        Due.is("fraction(0, 0)", x.fraction(0, 0), -1000000000000002L);
        Due.is("taken()", x.taken(), 0);
        Due.is("order(0)", x.order(0), 0);
        Due.is("order(1)", x.order(1), 1);
        Due.is("ledWord()", x.ledWord(), MixedWords.NOT);
        Due.is("chosen(2)", x.chosen(2), 3);
        Due.is("item of nothing", x.item(0, 0, 0, 1), MixedWords.NULL);
        Due.is("rows of nothing", x.rows(0, 0, 0), MixedWords.NULL);
        Due.is("undo()", x.undo(), MixedWords.NOT);
        Due.is("redo()", x.redo(), MixedWords.NOT);
        for (int sheet = 0; sheet < 4; sheet++) {
            Due.is("drop(" + sheet + ")", x.drop(sheet), MixedWords.NULL);
        }
        Due.is("read() of an empty tape", x.read(), -20);
        Due.is("type", x.type('1', 1), 1);
        Due.is("letters(2)", x.letters(2), 2);

        MixedWords other = new MixedWords();
        other.set(0, 0, 5);
        other.sheet(0, 0, 3);
        Due.is("told(0, 0) of another object", x.told(0, 0), 0);
        Due.is("drop(0) of another object", x.drop(0), MixedWords.NULL);
        Due.end(NewObjectTest.class);
    }
}
