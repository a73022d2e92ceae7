/** Counts the answers that are not as due; a test's main method ends with end(). */
final class Due {
    private static int asked = 0;
    private static int wrong = 0;

    private Due() {
    }

    static void is(String call, long got, long want) {
        asked++;
        if (got != want) {
            wrong++;
            System.out.println(call + " answered " + got + ", due is " + want);
        }
    }

    static void holds(String what, boolean isSo) {
        is(what, isSo ? 1 : 0, 1);
    }

    /** Types a text byte by byte. */
    static void type(MixedWords x, String text) {
        for (int i = 0; i < text.length(); i++) {
            is("type of '" + text.charAt(i) + "'", x.type(text.charAt(i), 1) > 0 ? 1 : 0, 1);
        }
    }

    /** A new object with the table of a text. */
    static MixedWords of(String table) {
        MixedWords x = new MixedWords();
        type(x, table);
        is("read() of " + table, x.read() > 0 ? 1 : 0, 1);
        return x;
    }

    static MixedWords of(String table, int letters, int... heard) {
        MixedWords x = of(table);
        x.letters(letters);
        for (int row = 0; row < heard.length; row++) {
            is("hear(" + row + ", " + heard[row] + ")", x.hear(row, heard[row]), 0);
        }
        return x;
    }

    static void end(Class<?> test) {
        System.out.println(test.getSimpleName() + ": " + asked + " answers, " + wrong + " not as due");
        if (wrong != 0) {
            System.exit(1);
        }
    }
}
