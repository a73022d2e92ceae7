import java.math.BigDecimal;
import java.math.BigInteger;
import java.math.RoundingMode;
import java.util.ArrayList;
import java.util.Arrays;
import java.util.Comparator;
import java.util.List;

/**
 * The document's words once more, by other means than the class: whole copies for ACTS, fractions by elimination,
 * lists that are sorted, a text looked at sign by sign.
 */
final class Model {
    int rows = 2;
    int columns = 2;
    private int a = 2;
    private int[][] table = new int[2][2];
    private int[] heard = new int[2];
    private final List<int[][]> back = new ArrayList<>();
    private final List<int[][]> on = new ArrayList<>();
    String tape = "";
    private final Object[] sheets = new Object[4];

    // ---- 1 the table, what is heard

    int table(int r, int m) {
        if (r < 1 || r > 5 || m < 1 || m > 4) {
            return -1;
        }
        rows = r;
        columns = m;
        table = new int[r][m];
        heard = new int[r];
        forget();
        return 1;
    }

    int letters(int newA) {
        if (newA != 2 && newA != 4) {
            return -1;
        }
        int was = a;
        a = newA;
        forget();
        return was;
    }

    private void forget() {
        back.clear();
        on.clear();
    }

    private int[][] copy() {
        int[][] all = new int[rows + 1][];
        for (int i = 0; i < rows; i++) {
            all[i] = table[i].clone();
        }
        all[rows] = heard.clone();
        return all;
    }

    private void lay(int[][] all) {
        for (int i = 0; i < rows; i++) {
            table[i] = all[i].clone();
        }
        heard = all[rows].clone();
    }

    private void act() {
        back.add(copy());
        if (back.size() > 40) {
            back.remove(0);
        }
        on.clear();
    }

    private static boolean below(int i, int n) {
        return 0 <= i && i < n;
    }

    int set(int row, int column, int v) {
        if (!below(row, rows) || !below(column, columns) || v > 9 || v < -9) {
            return -101;
        }
        act();
        int was = table[row][column];
        table[row][column] = v;
        return was;
    }

    int hear(int row, int v) {
        if (!below(row, rows) || v > 999 || v < -999) {
            return -10001;
        }
        act();
        int was = heard[row];
        heard[row] = v;
        return was;
    }

    int undo() {
        if (back.isEmpty()) {
            return -2;
        }
        on.add(copy());
        lay(back.remove(back.size() - 1));
        return back.size();
    }

    int redo() {
        if (on.isEmpty()) {
            return -2;
        }
        back.add(copy());
        lay(on.remove(on.size() - 1));
        return on.size();
    }

    int told(int row, int column) {
        if (!below(row, rows) || !below(column, columns + 1)) {
            return -10001;
        }
        return column == columns ? heard[row] : table[row][column];
    }

    int type(long w, int n) {
        if (n < 1 || n > 8) {
            return -1;
        }
        String more = "";
        for (int k = 0; k < n; k++) {
            long b = (w >>> 8 * k) % 256;
            b = b < 0 ? b + 256 : b;
            if (b < 32 || b >= 127) {
                return -1;
            }
            more = (char) b + more;
        }
        if ((tape + more).length() > 90) {
            return -3;
        }
        tape += more;
        return tape.length();
    }

    int read() {
        String text = tape;
        tape = "";
        List<List<Integer>> all = new ArrayList<>();
        all.add(new ArrayList<>());
        // What may stand next: 'n' a number with its sign, 'd' its digits, 's' a , or ; or the end.
        char state = 'n';
        int sign = 1;
        int i = 0;
        while (i < text.length()) {
            char c = text.charAt(i);
            if (c == ' ') {
                i++;
                continue;
            }
            List<Integer> row = all.get(all.size() - 1);
            boolean isFirst = all.size() == 1;
            if (state == 'n' && c == '-') {
                sign = -1;
                state = 'd';
                i++;
            } else if (state != 's' && c >= '0' && c <= '9') {
                int end = i;
                while (end < text.length() && Character.isDigit(text.charAt(end))) {
                    end++;
                }
                BigInteger value = new BigInteger(text.substring(i, end));
                if (value.compareTo(BigInteger.valueOf(9)) > 0) {
                    return -20 - i;
                }
                row.add(sign * value.intValue());
                sign = 1;
                state = 's';
                i = end;
            } else if (state == 's' && c == ',' && row.size() < (isFirst ? 4 : all.get(0).size())) {
                state = 'n';
                i++;
            } else if (state == 's' && c == ';' && row.size() == all.get(0).size() && all.size() < 5) {
                all.add(new ArrayList<>());
                state = 'n';
                i++;
            } else {
                return -20 - i;
            }
        }
        if (state != 's' || all.get(all.size() - 1).size() != all.get(0).size()) {
            return -20 - text.length();
        }
        table(all.size(), all.get(0).size());
        for (int r = 0; r < rows; r++) {
            for (int m = 0; m < columns; m++) {
                table[r][m] = all.get(r).get(m);
            }
        }
        return rows;
    }

    // ---- 2 words

    int words() {
        return BigInteger.valueOf(a).pow(columns).intValue();
    }

    private int[] lettersOf(int word) {
        int[] letters = new int[columns];
        for (int m = columns - 1; m >= 0; m--) {
            letters[m] = 2 * (word % a) - a + 1;
            word /= a;
        }
        return letters;
    }

    private int numberOf(int[] letters) {
        String digits = "";
        for (int letter : letters) {
            digits += (letter + a - 1) / 2;
        }
        return Integer.parseInt(digits, a);
    }

    int off(int word) {
        if (!below(word, words())) {
            return -1;
        }
        int[] letters = lettersOf(word);
        int sum = 0;
        for (int r = 0; r < rows; r++) {
            int made = 0;
            for (int m = 0; m < columns; m++) {
                made += table[r][m] * letters[m];
            }
            sum += (heard[r] - made) * (heard[r] - made);
        }
        return sum;
    }

    int nearest(int i) {
        if (!below(i, words())) {
            return -1;
        }
        List<int[]> all = new ArrayList<>();
        for (int word = 0; word < words(); word++) {
            all.add(new int[] {off(word), word});
        }
        all.sort(Comparator.<int[]>comparingInt(p -> p[0]).thenComparingInt(p -> p[1]));
        return all.get(i)[1];
    }

    int soft(int column, int b) {
        if (!below(column, columns) || !below(b, a / 2)) {
            return -100000001;
        }
        int[] least = {Integer.MAX_VALUE, Integer.MAX_VALUE};
        for (int word = 0; word < words(); word++) {
            int letter = lettersOf(word)[column];
            boolean isOne = b == 0 ? letter > 0 : letter == -1 || letter == 1;
            least[isOne ? 1 : 0] = Math.min(least[isOne ? 1 : 0], off(word));
        }
        return least[1] - least[0];
    }

    private static int[] column(int[][] of, int m) {
        return Arrays.stream(of).mapToInt(row -> row[m]).toArray();
    }

    private static int times(int[] u, int[] v) {
        int sum = 0;
        for (int i = 0; i < u.length; i++) {
            sum += u[i] * v[i];
        }
        return sum;
    }

    int gram(int i, int j) {
        if (!below(i, columns) || !below(j, columns)) {
            return -10001;
        }
        return times(column(table, i), column(table, j));
    }

    /** A fraction, kept without a common divisor, below above 0. */
    private record Part(BigInteger above, BigInteger below) {
        static Part of(long above, long below) {
            return of(BigInteger.valueOf(above), BigInteger.valueOf(below));
        }

        static Part of(BigInteger above, BigInteger below) {
            BigInteger d = above.gcd(below).multiply(BigInteger.valueOf(below.signum()));
            return new Part(above.divide(d), below.divide(d));
        }

        Part less(Part o) {
            return of(above.multiply(o.below).subtract(o.above.multiply(below)), below.multiply(o.below));
        }

        Part by(Part o) {
            return of(above.multiply(o.above), below.multiply(o.below));
        }

        Part over(Part o) {
            return of(above.multiply(o.below), below.multiply(o.above));
        }

        boolean isNought() {
            return above.signum() == 0;
        }

        Part away(long v) {
            Part d = less(of(v, 1));
            return new Part(d.above.abs(), d.below);
        }

        boolean isLess(Part o) {
            return less(o).above.signum() < 0;
        }

        /** The nearest whole number, of two the lesser or that nearer to 0. */
        long nearest(RoundingMode mode) {
            BigInteger floor = new BigDecimal(above).divide(new BigDecimal(below), 0, RoundingMode.FLOOR).toBigInteger();
            long f = floor.longValueExact();
            Part down = away(f);
            Part up = away(f + 1);
            if (down.equals(up)) {
                return mode == RoundingMode.FLOOR || f >= 0 ? f : f + 1;
            }
            return down.isLess(up) ? f : f + 1;
        }
    }

    /** Elimination: the determinant, and in x the answers, where it is not 0. */
    private static Part eliminate(int[][] of, int[] picked, long[] target, Part[] x) {
        int n = picked.length;
        Part[][] s = new Part[n][n + 1];
        for (int i = 0; i < n; i++) {
            for (int j = 0; j < n; j++) {
                s[i][j] = Part.of(times(column(of, picked[i]), column(of, picked[j])), 1);
            }
            long right = 0;
            for (int r = 0; r < of.length; r++) {
                right += of[r][picked[i]] * target[r];
            }
            s[i][n] = Part.of(right, 1);
        }
        Part determinant = Part.of(1, 1);
        for (int k = 0; k < n; k++) {
            int p = k;
            while (p < n && s[p][k].isNought()) {
                p++;
            }
            if (p == n) {
                return Part.of(0, 1);
            }
            if (p != k) {
                Part[] kept = s[p];
                s[p] = s[k];
                s[k] = kept;
                determinant = determinant.by(Part.of(-1, 1));
            }
            determinant = determinant.by(s[k][k]);
            for (int i = 0; i < n; i++) {
                if (i != k) {
                    Part q = s[i][k].over(s[k][k]);
                    for (int j = 0; j <= n; j++) {
                        s[i][j] = s[i][j].less(q.by(s[k][j]));
                    }
                }
            }
        }
        for (int i = 0; i < n; i++) {
            x[i] = s[i][n].over(s[i][i]);
        }
        return determinant;
    }

    private int[] allColumns() {
        int[] all = new int[columns];
        for (int m = 0; m < columns; m++) {
            all[m] = m;
        }
        return all;
    }

    long worth(int bits) {
        if (bits < 1 || bits >= 1 << columns) {
            return -1;
        }
        int[] picked = Arrays.stream(allColumns()).filter(m -> (bits >> m) % 2 == 1).toArray();
        return eliminate(table, picked, new long[rows], new Part[columns]).above().longValueExact();
    }

    /** The fractions, or null. */
    private Part[] parts(int[][] of, long[] target) {
        Part[] x = new Part[columns];
        return eliminate(of, allColumns(), target, x).isNought() ? null : x;
    }

    private int nearestLetter(Part x) {
        int best = -a + 1;
        for (int letter = -a + 1; letter <= a - 1; letter += 2) {
            if (x.away(letter).isLess(x.away(best))) {
                best = letter;
            }
        }
        return best;
    }

    int undone() {
        Part[] x = parts(table, Arrays.stream(heard).asLongStream().toArray());
        return x == null ? -2 : numberOf(Arrays.stream(x).mapToInt(this::nearestLetter).toArray());
    }

    long fraction(int column, int what) {
        if (!below(column, columns) || !below(what, 2)) {
            return -1000000000000001L;
        }
        Part[] x = parts(table, Arrays.stream(heard).asLongStream().toArray());
        if (x == null) {
            return -1000000000000002L;
        }
        return (what == 0 ? x[column].above() : x[column].below()).longValueExact();
    }

    private List<Integer> sequence() {
        List<Integer> all = new ArrayList<>();
        for (int m = 0; m < columns; m++) {
            all.add(m);
        }
        all.sort(Comparator.<Integer>comparingInt(m -> -gram(m, m)));
        return all;
    }

    int taken() {
        int[] letters = new int[columns];
        int[] left = heard.clone();
        for (int m : sequence()) {
            int[] c = column(table, m);
            letters[m] = nearestLetter(times(c, c) == 0 ? Part.of(0, 1) : Part.of(times(c, left), times(c, c)));
            for (int r = 0; r < rows; r++) {
                left[r] -= letters[m] * c[r];
            }
        }
        return numberOf(letters);
    }

    int order(int i) {
        return below(i, columns) ? sequence().get(i) : -1;
    }

    /** THE TABLE's rows and, below, T's rows, with LED's columns; how often it was done in the last row. */
    private int[][] ledWhole() {
        int[][] l = new int[rows + columns + 1][columns];
        for (int r = 0; r < rows; r++) {
            l[r] = table[r].clone();
        }
        for (int m = 0; m < columns; m++) {
            l[rows + m][m] = 1;
        }
        boolean goesOn = true;
        while (goesOn) {
            goesOn = false;
            for (int pair = 0; pair < columns * columns && !goesOn; pair++) {
                int i = pair / columns;
                int j = pair % columns;
                if (i == j) {
                    continue;
                }
                int[] ci = column(Arrays.copyOf(l, rows), i);
                int[] cj = column(Arrays.copyOf(l, rows), j);
                long q = times(cj, cj) == 0 ? 0 : Part.of(times(ci, cj), times(cj, cj)).nearest(RoundingMode.DOWN);
                int[] shorter = new int[rows];
                for (int r = 0; r < rows; r++) {
                    shorter[r] = ci[r] - (int) q * cj[r];
                }
                if (times(shorter, shorter) < times(ci, ci)) {
                    for (int r = 0; r < rows + columns; r++) {
                        l[r][i] -= (int) q * l[r][j];
                    }
                    l[rows + columns][0]++;
                    goesOn = true;
                }
            }
        }
        return l;
    }

    int led() {
        return ledWhole()[rows + columns][0];
    }

    int ledAt(int which, int row, int column) {
        if (!below(which, 2) || !below(row, which == 0 ? rows : columns) || !below(column, columns)) {
            return -1000001;
        }
        return ledWhole()[which == 0 ? row : rows + row][column];
    }

    int ledWord() {
        int[][] whole = ledWhole();
        int[][] twice = new int[rows][columns];
        long[] target = new long[rows];
        for (int r = 0; r < rows; r++) {
            target[r] = heard[r] + (a - 1) * Arrays.stream(table[r]).sum();
            for (int m = 0; m < columns; m++) {
                twice[r][m] = 2 * whole[r][m];
            }
        }
        Part[] z = parts(twice, target);
        if (z == null || parts(table, target) == null) {
            return -2;
        }
        int[] letters = new int[columns];
        for (int i = 0; i < columns; i++) {
            long u = 0;
            for (int m = 0; m < columns; m++) {
                u += whole[rows + i][m] * z[m].nearest(RoundingMode.FLOOR);
            }
            letters[i] = (int) Math.min(Math.max(2 * u - a + 1, -a + 1), a - 1);
        }
        return numberOf(letters);
    }

    int chosen(int k) {
        if (k < 1 || k > columns) {
            return -1;
        }
        List<String> sets = new ArrayList<>();
        for (int bits = 1; bits < 1 << columns; bits++) {
            String set = "";
            for (int m = 0; m < columns; m++) {
                set += (bits >> m) % 2 == 1 ? "" + m : "";
            }
            if (set.length() == k) {
                sets.add(set);
            }
        }
        sets.sort(Comparator.<String>comparingLong(s -> -worth(bitsOf(s))).thenComparing(Comparator.naturalOrder()));
        return bitsOf(sets.get(0));
    }

    private static int bitsOf(String set) {
        return set.chars().map(c -> 1 << c - '0').sum();
    }

    // ---- 3 sheets

    /** The LANE that a sheet has, or 0: so that calls of a run often fit. */
    int laneOf(int sheet) {
        Object s = below(sheet, 4) ? sheets[sheet] : null;
        return s instanceof long[] ? 2 : s instanceof int[] ? 1 : 0;
    }

    private static int lengthOf(Object s) {
        return java.lang.reflect.Array.getLength(s);
    }

    int sheet(int sheet, int lane, int n) {
        if (!below(sheet, 4) || !below(lane, 3) || n > 25) {
            return -1;
        }
        if (n < 0) {
            return -14;
        }
        sheets[sheet] = lane == 0 ? new byte[n] : lane == 1 ? new int[n] : new long[n];
        return n;
    }

    int drop(int sheet) {
        if (!below(sheet, 4)) {
            return -1;
        }
        if (sheets[sheet] == null) {
            return -11;
        }
        int n = lengthOf(sheets[sheet]);
        sheets[sheet] = null;
        return n;
    }

    private int refused(int sheet, int lane) {
        if (!below(sheet, 4) || !below(lane, 3)) {
            return -1;
        }
        return sheets[sheet] == null ? -11 : laneOf(sheet) != lane ? -12 : 0;
    }

    int item(int sheet, int lane, int i, int v) {
        if (refused(sheet, lane) != 0) {
            return refused(sheet, lane);
        }
        if (!below(i, lengthOf(sheets[sheet]))) {
            return -13;
        }
        if (sheets[sheet] instanceof byte[] b) {
            b[i] = (byte) v;
        } else if (sheets[sheet] instanceof int[] n) {
            n[i] = v;
        } else if (sheets[sheet] instanceof long[] w) {
            w[i] = v;
        }
        return 1;
    }

    int rows(int sheet, int lane, int i) {
        if (refused(sheet, lane) != 0) {
            return refused(sheet, lane);
        }
        int n = rows * (columns + 1);
        if (i < 0 || (long) i + n > lengthOf(sheets[sheet])) {
            return -13;
        }
        int[][] all = new int[rows + 1][columns];
        all[rows] = new int[rows];
        for (int r = 0; r < rows; r++) {
            for (int m = 0; m <= columns; m++) {
                long v = java.lang.reflect.Array.getLong(sheets[sheet], i + r * (columns + 1) + m);
                if (Math.abs(v) > (m == columns ? 999 : 9)) {
                    return -2;
                }
                if (m == columns) {
                    all[rows][r] = (int) v;
                } else {
                    all[r][m] = (int) v;
                }
            }
        }
        lay(all);
        forget();
        return rows;
    }
}
