import java.util.ArrayList;
import java.util.List;
import java.util.function.ToLongFunction;

/**
 * The Terms' "of several the first that a call names" and "What answers so changes nothing": every refusal of every
 * call, asked of one of two objects with the same past, which must answer alike from then on.
 */
public final class RefusedTest {
    private static final int BAD = MixedWords.BAD, NOT = MixedWords.NOT, FULL = MixedWords.FULL;
    private static final int NULL = MixedWords.NULL, CAST = MixedWords.CAST;
    private static final int INDEX = MixedWords.INDEX, SIZE = MixedWords.SIZE;
    private static final int MIN = Integer.MIN_VALUE, MAX = Integer.MAX_VALUE;
    private static final long BAD_FRACTION = -1000000000000001L, NOT_FRACTION = -1000000000000002L;

    private static final int[] LANE_OF = {0, 1, 2, 0};

    private record Refusal(String call, long due, ToLongFunction<MixedWords> asked) {
    }

    private static final List<Refusal> REFUSALS = new ArrayList<>();

    private static void refuse(String call, long due, ToLongFunction<MixedWords> asked) {
        REFUSALS.add(new Refusal(call, due, asked));
    }

    public static void main(String[] args) {
        tableAndHeard();
        tape();
        words();
        sheets();
        for (Refusal refusal : REFUSALS) {
            MixedWords asked = past();
            Due.is(refusal.call(), refusal.asked().applyAsLong(asked), refusal.due());
            List<Long> got = everything(asked);
            List<Long> due = everything(past());
            Due.holds(refusal.call() + " changes nothing: " + got + " is " + due, got.equals(due));
        }
        atTheEnd("undo()", 3, MixedWords::undo);
        atTheEnd("redo()", 2, MixedWords::redo);
        Due.end(RefusedTest.class);
    }

    /**
     * 2 rows of 3 columns that hang together, 4 LETTERS, ACTS both ways, 87 bytes on THE TAPE (a table of 1 by 2),
     * sheet 0 nothing, 1 ints with one too far at item 3, 2 longs of none, 3 bytes just long enough.
     */
    private static MixedWords past() {
        MixedWords x = Due.of("1,-2,3;4,5,-6", 4);
        for (int k = 0; k < 10; k++) {
            x.type(0x2020202020202020L, 8);
        }
        x.type(0x202020382C2D37L, 7);
        x.sheet(1, 1, 9);
        for (int i = 0; i < 9; i++) {
            x.item(1, 1, i, i == 3 ? 1000 : i);
        }
        x.sheet(2, 2, 0);
        x.sheet(3, 0, 8);
        x.item(3, 0, 7, -100);
        x.set(0, 0, 2);
        x.hear(1, -50);
        x.set(1, 2, -9);
        x.hear(0, 70);
        x.set(0, 1, 6);
        x.undo();
        x.undo();
        return x;
    }

    /** All that calls can tell, the ones that change nothing first. */
    private static List<Long> everything(MixedWords x) {
        List<Long> all = new ArrayList<>();
        tellAll(x, all);
        for (int k = 0; k < 3; k++) {
            all.add((long) x.redo());
            tellTable(x, all);
        }
        for (int k = 0; k < 6; k++) {
            all.add((long) x.undo());
            tellTable(x, all);
        }
        all.add((long) x.type(' ', 1));
        all.add((long) x.read());
        tellTable(x, all);
        all.add((long) x.letters(2));
        x.table(1, 1);
        for (int sheet = 0; sheet < 4; sheet++) {
            for (int i = 0; i < 9; i += 2) {
                all.add((long) x.rows(sheet, LANE_OF[sheet], i));
                all.add((long) x.told(0, 0));
                all.add((long) x.told(0, 1));
            }
            all.add((long) x.drop(sheet));
        }
        return all;
    }

    private static void tellAll(MixedWords x, List<Long> all) {
        tellTable(x, all);
        for (int k = 0; k < 4; k++) {
            all.add((long) x.nearest(k));
            all.add((long) x.off(15 * k));
            all.add((long) x.soft(k, 1));
            all.add((long) x.gram(0, k));
            all.add(x.fraction(k, 0));
            all.add((long) x.order(k));
            all.add((long) x.ledAt(0, 1, k));
            all.add((long) x.ledAt(1, k, 0));
            all.add((long) x.chosen(k));
        }
        all.add(x.worth(3));
        all.add((long) x.undone());
        all.add((long) x.taken());
        all.add((long) x.led());
        all.add((long) x.ledWord());
    }

    private static void tellTable(MixedWords x, List<Long> all) {
        for (int row = 0; row < 3; row++) {
            for (int column = 0; column < 5; column++) {
                all.add((long) x.told(row, column));
            }
        }
    }

    private static void tableAndHeard() {
        int[][] sizes = {{0, 3}, {6, 3}, {2, 0}, {2, 5}, {0, 0}, {-1, 3}, {2, -1}, {MIN, 3}, {MAX, 3}, {2, MIN}, {2, MAX}};
        for (int[] s : sizes) {
            refuse("table(" + s[0] + ", " + s[1] + ")", BAD, x -> x.table(s[0], s[1]));
        }
        for (int a : new int[] {-4, -2, -1, 0, 1, 3, 5, 6, 8, MIN, MAX}) {
            refuse("letters(" + a + ")", BAD, x -> x.letters(a));
        }
        int[][] sets = {
            {-1, 0, 1}, {2, 0, 1}, {0, -1, 1}, {0, 3, 1}, {0, 0, 10}, {0, 0, -10}, {MIN, 0, 1}, {MAX, 0, 1}, {0, MIN, 1},
            {0, MAX, 1}, {0, 0, MIN}, {0, 0, MAX}, {2, 3, 10},
        };
        for (int[] s : sets) {
            refuse("set(" + s[0] + ", " + s[1] + ", " + s[2] + ")", -101, x -> x.set(s[0], s[1], s[2]));
        }
        int[][] hears = {{-1, 5}, {2, 5}, {0, 1000}, {0, -1000}, {MIN, 5}, {MAX, 5}, {0, MIN}, {0, MAX}, {2, 1000}};
        for (int[] h : hears) {
            refuse("hear(" + h[0] + ", " + h[1] + ")", -10001, x -> x.hear(h[0], h[1]));
        }
        for (int[] p : new int[][] {{-1, 0}, {2, 0}, {0, -1}, {0, 4}, {MIN, 0}, {MAX, 0}, {0, MIN}, {0, MAX}}) {
            refuse("told(" + p[0] + ", " + p[1] + ")", -10001, x -> x.told(p[0], p[1]));
        }
    }

    private static void tape() {
        for (int n : new int[] {0, -1, 9, MIN, MAX}) {
            refuse("type of good bytes, n " + n, BAD, x -> x.type(0x3131313131313131L, n));
        }
        for (int b : new int[] {0, 31, 127, 128, 255}) {
            refuse("type of a byte " + b, BAD, x -> x.type(b, 1));
            refuse("type of a byte " + b + " and a good one", BAD, x -> x.type(b << 8 | '1', 2));
            refuse("type of a good byte and " + b, BAD, x -> x.type('1' << 8 | b, 2));
        }
        for (int n = 4; n <= 8; n++) {
            int count = n;
            refuse("type behind 87, n " + n, FULL, x -> x.type(0x3131313131313131L, count));
            refuse("BAD ahead of FULL, n " + n, BAD, x -> x.type(0x313131313131311FL, count));
        }
        refuse("BAD ahead of FULL: n", BAD, x -> x.type(0x3131313131313131L, 9));
    }

    private static void words() {
        for (int i : new int[] {-1, 64, 65, MIN, MAX}) {
            refuse("off(" + i + ")", BAD, x -> x.off(i));
            refuse("nearest(" + i + ")", BAD, x -> x.nearest(i));
        }
        for (int[] p : new int[][] {{-1, 0}, {3, 0}, {0, -1}, {0, 2}, {MIN, 0}, {MAX, 0}, {0, MIN}, {0, MAX}}) {
            refuse("soft(" + p[0] + ", " + p[1] + ")", -100000001, x -> x.soft(p[0], p[1]));
            refuse("BAD ahead of NOT: fraction(" + p[0] + ", " + p[1] + ")", BAD_FRACTION, x -> x.fraction(p[0], p[1]));
        }
        for (int[] p : new int[][] {{-1, 0}, {3, 0}, {0, -1}, {0, 3}, {MIN, 0}, {MAX, 0}, {0, MIN}, {0, MAX}}) {
            refuse("gram(" + p[0] + ", " + p[1] + ")", -10001, x -> x.gram(p[0], p[1]));
        }
        for (int columns : new int[] {0, -1, 8, 9, 15, MIN, MAX}) {
            refuse("worth(" + columns + ")", BAD, x -> x.worth(columns));
        }
        for (int i : new int[] {-1, 3, MIN, MAX}) {
            refuse("order(" + i + ")", BAD, x -> x.order(i));
        }
        for (int k : new int[] {0, -1, 4, MIN, MAX}) {
            refuse("chosen(" + k + ")", BAD, x -> x.chosen(k));
        }
        int[][] places = {
            {-1, 0, 0}, {2, 0, 0}, {0, -1, 0}, {0, 2, 0}, {0, 0, -1}, {0, 0, 3}, {1, -1, 0}, {1, 3, 0}, {1, 0, -1},
            {1, 0, 3}, {MIN, 0, 0}, {MAX, 0, 0}, {0, MIN, 0}, {1, MAX, 0}, {0, 0, MIN}, {1, 0, MAX},
        };
        for (int[] p : places) {
            refuse("ledAt(" + p[0] + ", " + p[1] + ", " + p[2] + ")", -1000001, x -> x.ledAt(p[0], p[1], p[2]));
        }
        refuse("undone() where THE WORTH is 0", NOT, MixedWords::undone);
        refuse("ledWord() where THE WORTH is 0", NOT, MixedWords::ledWord);
        refuse("fraction(0, 0) where THE WORTH is 0", NOT_FRACTION, x -> x.fraction(0, 0));
        refuse("fraction(2, 1) where THE WORTH is 0", NOT_FRACTION, x -> x.fraction(2, 1));
    }

    private static void sheets() {
        for (int[] p : new int[][] {{-1, 0}, {4, 0}, {1, -1}, {1, 3}, {MIN, 0}, {MAX, 0}, {1, MIN}, {1, MAX}}) {
            String at = p[0] + ", " + p[1];
            refuse("sheet(" + at + ", 3)", BAD, x -> x.sheet(p[0], p[1], 3));
            refuse("BAD ahead of SIZE: sheet(" + at + ", -1)", BAD, x -> x.sheet(p[0], p[1], -1));
            refuse("item(" + at + ", 0, 5)", BAD, x -> x.item(p[0], p[1], 0, 5));
            refuse("BAD ahead of INDEX: item(" + at + ", 99, 5)", BAD, x -> x.item(p[0], p[1], 99, 5));
            refuse("rows(" + at + ", 0)", BAD, x -> x.rows(p[0], p[1], 0));
            refuse("BAD ahead of INDEX: rows(" + at + ", 99)", BAD, x -> x.rows(p[0], p[1], 99));
        }
        for (int n : new int[] {26, MAX}) {
            refuse("sheet(1, 1, " + n + ")", BAD, x -> x.sheet(1, 1, n));
        }
        for (int n : new int[] {-1, MIN}) {
            refuse("sheet(1, 1, " + n + ")", SIZE, x -> x.sheet(1, 1, n));
        }
        for (int sheet : new int[] {-1, 4, MIN, MAX}) {
            refuse("drop(" + sheet + ")", BAD, x -> x.drop(sheet));
        }
        refuse("drop of nothing", NULL, x -> x.drop(0));
        refuse("BAD ahead of NULL: item of no lane", BAD, x -> x.item(0, 3, 0, 5));
        refuse("BAD ahead of NULL: rows of no lane", BAD, x -> x.rows(0, 3, 0));
        for (int lane = 0; lane < 3; lane++) {
            int its = lane;
            refuse("item of nothing", NULL, x -> x.item(0, its, 0, 5));
            refuse("NULL ahead of INDEX: item", NULL, x -> x.item(0, its, -1, 5));
            refuse("rows of nothing", NULL, x -> x.rows(0, its, 0));
            refuse("NULL ahead of INDEX: rows", NULL, x -> x.rows(0, its, -1));
        }
        for (int lane : new int[] {0, 2}) {
            refuse("item of another lane", CAST, x -> x.item(1, lane, 0, 5));
            refuse("CAST ahead of INDEX: item", CAST, x -> x.item(1, lane, 9, 5));
            refuse("rows of another lane, one not as told", CAST, x -> x.rows(1, lane, 0));
            refuse("CAST ahead of INDEX: rows", CAST, x -> x.rows(1, lane, 2));
        }
        refuse("CAST ahead of INDEX: item of none", CAST, x -> x.item(2, 1, 0, 5));
        refuse("CAST ahead of INDEX: rows of none", CAST, x -> x.rows(2, 1, 0));
        for (int i : new int[] {-1, 9, 10, 25, MIN, MAX}) {
            refuse("item " + i + " of 9", INDEX, x -> x.item(1, 1, i, 5));
        }
        refuse("item 0 of none", INDEX, x -> x.item(2, 2, 0, 5));
        for (int i : new int[] {-1, 2, 8, 9, MIN, MAX, MAX - 7}) {
            refuse("INDEX ahead of NOT: rows of 8 from " + i + " of 9", INDEX, x -> x.rows(1, 1, i));
        }
        refuse("rows of none", INDEX, x -> x.rows(2, 2, 0));
        refuse("rows of 8 from 1 of 8", INDEX, x -> x.rows(3, 0, 1));
        refuse("rows with HEARD 1000", NOT, x -> x.rows(1, 1, 0));
        refuse("rows with a number 1000", NOT, x -> x.rows(1, 1, 1));
    }

    /** undo() and redo() at their ends need pasts of their own. */
    private static void atTheEnd(String call, int steps, ToLongFunction<MixedWords> step) {
        MixedWords asked = past();
        MixedWords other = past();
        for (int k = steps - 1; k >= 0; k--) {
            Due.is(call + " before the end", step.applyAsLong(asked), k);
            step.applyAsLong(other);
        }
        Due.is(call + " at the end", step.applyAsLong(asked), NOT);
        List<Long> got = everything(asked);
        List<Long> due = everything(other);
        Due.holds(call + " at the end changes nothing: " + got + " is " + due, got.equals(due));
    }
}
