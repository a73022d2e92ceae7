import java.util.List;

/**
 * LANGUAGE.md's rule 7: no call throws, for any arguments in any state; and an object's 512 calls, the last of which
 * answers as the first did.
 */
public final class EveryArgumentTest {
    private static final int MIN = Integer.MIN_VALUE, MAX = Integer.MAX_VALUE;
    private static final int[] EDGES = {
        MIN, MIN + 1, MIN + 24, -1001, -1000, -999, -10, -9, -2, -1, 0, 1, 2, 3, 4, 5, 6, 8, 9, 10, 15, 16, 24, 25, 26, 90,
        255, 256, 999, 1000, MAX - 24, MAX - 1, MAX,
    };
    private static final long[] WIDE_EDGES = {
        Long.MIN_VALUE, -1, 0, 31, 32, 126, 127, 255, 0x3131313131313131L, 0x312C322C332C342CL, 0x7E7E7E7E7E7E7E7EL, Long.MAX_VALUE,
    };
    private static final List<String> STATES = List.of(
        "", "0", "9;9;9;9;9", "-9,9,-9,9", "1,2;3,4", "9,8,7,6;8,9,8,7;7,8,9,8;6,7,8,9;1,2,3,4");

    public static void main(String[] args) {
        for (String state : STATES) {
            for (int letters = 2; letters <= 4; letters += 2) {
                oneArgument(state, letters);
                twoArguments(state, letters);
                threeArguments(state, letters);
            }
        }
        lastOfSoMany();
        Due.end(EveryArgumentTest.class);
    }

    private static MixedWords inState(String table, int letters) {
        MixedWords x = table.isEmpty() ? new MixedWords() : Due.of(table);
        x.letters(letters);
        x.sheet(1, 0, 25);
        x.sheet(2, 1, 0);
        x.sheet(3, 2, 7);
        x.hear(0, -999);
        x.set(0, 0, 9);
        x.undo();
        return x;
    }

    /** Fails with the call's name where it throws; else nothing is asked of its answer. */
    private static void ends(String call, Runnable asked) {
        boolean isThrown = false;
        try {
            asked.run();
        } catch (RuntimeException | StackOverflowError e) {
            isThrown = true;
        }
        Due.holds(call + " throws nothing", !isThrown);
    }

    private static void oneArgument(String state, int letters) {
        for (int a : EDGES) {
            MixedWords x = inState(state, letters);
            String in = "(" + a + ") in '" + state + "'";
            ends("off" + in, () -> x.off(a));
            ends("nearest" + in, () -> x.nearest(a));
            ends("worth" + in, () -> x.worth(a));
            ends("order" + in, () -> x.order(a));
            ends("chosen" + in, () -> x.chosen(a));
            ends("undone" + in, x::undone);
            ends("taken" + in, x::taken);
            ends("led" + in, x::led);
            ends("ledWord" + in, x::ledWord);
            ends("undo" + in, x::undo);
            ends("redo" + in, x::redo);
            ends("read" + in, x::read);
            ends("drop" + in, () -> x.drop(a));
            ends("letters" + in, () -> x.letters(a));
        }
    }

    private static void twoArguments(String state, int letters) {
        for (int a : EDGES) {
            MixedWords x = inState(state, letters);
            for (int b : EDGES) {
                String in = "(" + a + ", " + b + ") in '" + state + "'";
                ends("soft" + in, () -> x.soft(a, b));
                ends("gram" + in, () -> x.gram(a, b));
                ends("fraction" + in, () -> x.fraction(a, b));
                ends("told" + in, () -> x.told(a, b));
                ends("hear" + in, () -> x.hear(a, b));
            }
            for (long w : WIDE_EDGES) {
                ends("type(" + w + ", " + a + ")", () -> x.type(w, a));
            }
            ends("read behind it", x::read);
            MixedWords y = inState(state, letters);
            for (int b : EDGES) {
                String in = "(" + a + ", " + b + ") in '" + state + "'";
                ends("table" + in, () -> y.table(a, b));
                ends("ledWord behind table" + in, y::ledWord);
                ends("undo behind table" + in, y::undo);
            }
        }
    }

    private static void threeArguments(String state, int letters) {
        for (int a : EDGES) {
            for (int b : EDGES) {
                MixedWords x = inState(state, letters);
                for (int c : EDGES) {
                    String in = "(" + a + ", " + b + ", " + c + ") in '" + state + "'";
                    ends("set" + in, () -> x.set(a, b, c));
                    ends("ledAt" + in, () -> x.ledAt(a, b, c));
                    ends("rows" + in, () -> x.rows(a, b, c));
                    ends("item" + in, () -> x.item(a, b, c, a ^ c));
                    ends("sheet" + in, () -> x.sheet(a, b, c));
                    ends("rows behind sheet" + in, () -> x.rows(a, b, c));
                }
            }
        }
    }

    private static void lastOfSoMany() {
        MixedWords acts = new MixedWords();
        for (int call = 1; call <= 510; call++) {
            Due.is("hear, call " + call, acts.hear(0, call), call - 1);
        }
        Due.is("undo(), call 511", acts.undo(), 39);
        Due.is("told(0, 2), call 512", acts.told(0, 2), 509);

        MixedWords sheets = new MixedWords();
        for (int call = 1; call <= 512; call++) {
            Due.is("sheet, call " + call, sheets.sheet(call % 4, call % 3, call % 26), call % 26);
        }

        MixedWords asked = Due.of("9,8,7,6;8,9,8,7;7,8,9,8;6,7,8,9;1,2,3,4", 4, 100, -100, 50, 0, 7);
        int nearest = asked.nearest(0);
        int led = asked.led();
        int ledWord = asked.ledWord();
        for (int k = 0; k < 140; k++) {
            Due.is("nearest(0) again", asked.nearest(0), nearest);
            Due.is("led() again", asked.led(), led);
            Due.is("ledWord() again", asked.ledWord(), ledWord);
        }

        MixedWords more = new MixedWords();
        for (int call = 1; call <= 100000; call++) {
            int v = call % 19 - 9;
            ends("set long behind the 512th", () -> more.set(0, 0, v));
            ends("nearest long behind the 512th", () -> more.nearest(3));
            ends("type long behind the 512th", () -> more.type(0x3131313131313131L, 8));
        }
    }
}
