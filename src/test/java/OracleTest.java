import java.util.Random;

/** Runs of 512 calls by a fixed seed, each answer beside that of a model written another way. */
public final class OracleTest {
    private static final int RUNS = 1200, CALLS = 512, TEXT_RUNS = 20000;
    private static final int[] FAR = {Integer.MIN_VALUE, Integer.MAX_VALUE, -1, -2, 1000000, 256, 999, 1000, -1000};
    private static final String[] TEXTS = {
        "1,2;3,4", "9,8,7,6;8,9,8,7;7,8,9,8;6,7,8,9;1,2,3,4", "1;2;3;4;5;6", "1,2,3,4,5", "-1,-2;3", " - 3 , 4 ; 5 ,-6 ",
        "10", "1,-10", "1,,", "007;08;9", "1,0,0;0,1,0;0,0,1", "2,1;0,2", "1 2", "x", "1,2;3,4,5", "1,2;3;", "5,4,1;2,3,-6;0,7,2;1,1,1",
    };

    private final Random random;
    private final MixedWords x = new MixedWords();
    private final Model model = new Model();
    private final int most;
    private final boolean isQuiet;
    private final StringBuilder told = new StringBuilder();
    private long got;
    private long want;

    private OracleTest(int seed) {
        random = new Random(seed);
        int[] mosts = {1, 2, 4, 9};
        most = mosts[random.nextInt(4)];
        isQuiet = random.nextBoolean();
    }

    public static void main(String[] args) {
        int wrong = 0;
        for (int seed = 0; seed < RUNS; seed++) {
            wrong += new OracleTest(seed).run(seed);
            if (wrong > 5) {
                break;
            }
        }
        Due.is("runs that go wrong", wrong, 0);
        for (int seed = 0; seed < TEXT_RUNS; seed++) {
            new OracleTest(seed).readText();
        }
        Due.end(OracleTest.class);
    }

    private int run(int seed) {
        for (int call = 0; call < CALLS; call++) {
            told.setLength(0);
            int kind = random.nextInt(100);
            if (kind < 35) {
                change();
            } else if (kind < 48) {
                tape();
            } else if (kind < 62) {
                sheets();
            } else {
                ask();
            }
            if (got != want) {
                System.out.println("run " + seed + ", call " + call + ": " + told + " answered " + got + ", due is " + want);
                return 1;
            }
        }
        return 0;
    }

    /** Tables as texts, half of them with a sign put in, left out or changed. */
    private void readText() {
        StringBuilder text = new StringBuilder(goodText());
        if (random.nextBoolean()) {
            int at = random.nextInt(text.length());
            int way = random.nextInt(3);
            text.delete(at, way == 0 ? at : at + 1);
            text.insert(at, way == 1 ? "" : "" + ",;- 0123456789x".charAt(random.nextInt(15)));
        }
        for (int i = 0; i < text.length(); i++) {
            Due.is("type of '" + text + "' at " + i, x.type(text.charAt(i), 1), model.type(text.charAt(i), 1));
        }
        Due.is("read() of '" + text + "'", x.read(), model.read());
        for (int row = 0; row <= 5; row++) {
            for (int column = 0; column <= 5; column++) {
                Due.is("told of '" + text + "'", x.told(row, column), model.told(row, column));
            }
        }
    }

    private String goodText() {
        int r = 1 + random.nextInt(5);
        int m = 1 + random.nextInt(4);
        boolean isWide = random.nextBoolean();
        StringBuilder text = new StringBuilder();
        for (int k = 0; k < r * m; k++) {
            text.append(k == 0 ? "" : k % m == 0 ? ";" : ",").append(blanks(isWide));
            text.append(random.nextInt(3) == 0 ? "-" + blanks(isWide) : "").append(random.nextInt(6) == 0 ? "0" : "");
            text.append(random.nextInt(10)).append(blanks(isWide));
        }
        return text.toString();
    }

    private String blanks(boolean isWide) {
        return isWide && random.nextInt(4) == 0 ? " " : "";
    }

    /** A number from 0 on below n; now and then one at the edge or far away. */
    private int some(int n) {
        int way = random.nextInt(30);
        if (way == 0) {
            return FAR[random.nextInt(FAR.length)];
        }
        return way == 1 ? n : random.nextInt(Math.max(1, n));
    }

    private int someWithin(int limit) {
        int way = random.nextInt(30);
        if (way == 0) {
            return FAR[random.nextInt(FAR.length)];
        }
        return way == 1 ? limit + 1 : way == 2 ? -limit - 1 : random.nextInt(2 * limit + 1) - limit;
    }

    private int someHeard() {
        return someWithin(isQuiet ? 3 * most * model.columns : 999);
    }

    private void change() {
        int way = random.nextInt(100);
        if (way < 3) {
            int r = some(5) + 1;
            int m = some(4) + 1;
            told.append("table ").append(r).append(' ').append(m);
            got = x.table(r, m);
            want = model.table(r, m);
        } else if (way < 6) {
            int a = random.nextInt(8) == 0 ? some(6) : 2 * (1 + random.nextInt(2));
            told.append("letters ").append(a);
            got = x.letters(a);
            want = model.letters(a);
        } else if (way < 50) {
            int row = some(model.rows);
            int column = some(model.columns);
            int v = someWithin(random.nextInt(8) == 0 ? 9 : most);
            told.append("set ").append(row).append(' ').append(column).append(' ').append(v);
            got = x.set(row, column, v);
            want = model.set(row, column, v);
        } else if (way < 75) {
            int row = some(model.rows);
            int v = someHeard();
            told.append("hear ").append(row).append(' ').append(v);
            got = x.hear(row, v);
            want = model.hear(row, v);
        } else if (way < 90) {
            told.append("undo");
            got = x.undo();
            want = model.undo();
        } else {
            told.append("redo");
            got = x.redo();
            want = model.redo();
        }
    }

    private void tape() {
        if (random.nextInt(12) == 0) {
            told.append("read of '").append(model.tape).append('\'');
            got = x.read();
            want = model.read();
            return;
        }
        String text = random.nextInt(3) == 0 ? TEXTS[random.nextInt(TEXTS.length)] : someText();
        int from = random.nextInt(4) == 0 ? random.nextInt(text.length()) : 0;
        int n = Math.min(8, text.length() - from);
        long w = random.nextInt(4) == 0 ? random.nextLong() : 0;
        for (int i = 0; i < n; i++) {
            w = w << 8 | text.charAt(from + i);
        }
        n = random.nextInt(40) == 0 ? some(9) : n;
        told.append("type ").append(w).append(' ').append(n);
        got = x.type(w, n);
        want = model.type(w, n);
    }

    private String someText() {
        StringBuilder text = new StringBuilder();
        int n = 1 + random.nextInt(8);
        for (int i = 0; i < n; i++) {
            boolean isSign = random.nextInt(3) == 0;
            text.append(isSign ? ",;- ,;-x".charAt(random.nextInt(8)) : (char) ('0' + random.nextInt(10)));
            text.append(random.nextInt(3) == 0 ? ";" : random.nextInt(5) == 0 ? "" : ",");
        }
        return text.toString();
    }

    private void sheets() {
        int sheet = some(4);
        int lane = random.nextInt(4) == 0 ? some(3) : model.laneOf(sheet);
        int way = random.nextInt(10);
        if (way < 2) {
            int n = random.nextInt(3) == 0 ? 25 : random.nextInt(29) - 1;
            lane = some(3);
            told.append("sheet ").append(sheet).append(' ').append(lane).append(' ').append(n);
            got = x.sheet(sheet, lane, n);
            want = model.sheet(sheet, lane, n);
        } else if (way < 3) {
            sheet = random.nextInt(3) == 0 ? sheet : 3;
            told.append("drop ").append(sheet);
            got = x.drop(sheet);
            want = model.drop(sheet);
        } else if (way < 8) {
            int i = some(25);
            int v = random.nextInt(4) == 0 ? someHeard() : someWithin(most);
            v += random.nextInt(20) == 0 ? 256 : 0;
            told.append("item ").append(sheet).append(' ').append(lane).append(' ').append(i).append(' ').append(v);
            got = x.item(sheet, lane, i, v);
            want = model.item(sheet, lane, i, v);
        } else {
            int i = random.nextInt(3) == 0 ? 0 : some(12);
            told.append("rows ").append(sheet).append(' ').append(lane).append(' ').append(i);
            got = x.rows(sheet, lane, i);
            want = model.rows(sheet, lane, i);
        }
    }

    private void ask() {
        int a = 0;
        int b = 0;
        int c = 0;
        int way = random.nextInt(14);
        int m = model.columns;
        switch (way) {
            case 0 -> ask("off", a = some(model.words()), 0, 0, x.off(a), model.off(a));
            case 1 -> ask("nearest", a = some(model.words()), 0, 0, x.nearest(a), model.nearest(a));
            case 2 -> ask("soft", a = some(m), b = some(2), 0, x.soft(a, b), model.soft(a, b));
            case 3 -> ask("gram", a = some(m), b = some(m), 0, x.gram(a, b), model.gram(a, b));
            case 4 -> ask("worth", a = some(1 << m), 0, 0, x.worth(a), model.worth(a));
            case 5 -> ask("undone", 0, 0, 0, x.undone(), model.undone());
            case 6 -> ask("fraction", a = some(m), b = some(2), 0, x.fraction(a, b), model.fraction(a, b));
            case 7 -> ask("taken", 0, 0, 0, x.taken(), model.taken());
            case 8 -> ask("order", a = some(m), 0, 0, x.order(a), model.order(a));
            case 9 -> ask("led", 0, 0, 0, x.led(), model.led());
            case 10 -> ask("ledAt", a = some(2), b = some(5), c = some(m), x.ledAt(a, b, c), model.ledAt(a, b, c));
            case 11 -> ask("ledWord", 0, 0, 0, x.ledWord(), model.ledWord());
            case 12 -> ask("chosen", a = some(m + 1), 0, 0, x.chosen(a), model.chosen(a));
            default -> ask("told", a = some(model.rows), b = some(m + 1), 0, x.told(a, b), model.told(a, b));
        }
    }

    private void ask(String name, int a, int b, int c, long answer, long due) {
        told.append(name).append(' ').append(a).append(' ').append(b).append(' ').append(c);
        got = answer;
        want = due;
    }
}
