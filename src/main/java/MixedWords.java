import java.util.Arrays;

/**
 * Words whose letters are sent at once by several, mixed by a table of whole numbers, and told back from what is
 * heard. The numbered promises are in the document; this face looks at every argument before anything is touched.
 */
public final class MixedWords {
    public static final int BAD = -1, NOT = -2, FULL = -3, NONE = -4, NULL = -11, CAST = -12, INDEX = -13, SIZE = -14;

    private static final int MOST_ROWS = 5, MOST_COLUMNS = 4, MOST_WORDS = 256;
    private static final int MOST_NUMBER = 9, MOST_HEARD = 999;
    // Above every OFF: 5 times the square of 999 + 4 * 3 * 9.
    private static final int BEYOND_OFF = 10000000;
    private static final int SHEETS = 4, LANES = 3, MOST_ITEMS = 25;
    // Where a good answer may itself be below 0, BAD and NOT are moved out of its reach.
    private static final int BAD_SET = BAD - 100, BAD_TOLD = BAD - 10000, BAD_SOFT = BAD - 100000000;
    private static final int BAD_LED = BAD - 1000000;
    private static final long FAR_BELOW = 1000000000000000L;

    private final Mix mix;
    private final Acts acts;
    private final Tape tape;
    private final Reader reader;
    private final Words words;
    private final Least least;
    private final Taker taker;
    private final Leader leader;
    private final Sheet[] sheets;

    public MixedWords() {
        mix = new Mix();
        acts = new Acts(mix);
        tape = new Tape();
        reader = new Reader(tape);
        words = new Words(mix);
        least = new Least();
        taker = new Taker(mix);
        leader = new Leader(mix);
        sheets = new Sheet[SHEETS];
        for (int i = 0; i < SHEETS; i++) {
            sheets[i] = new Sheet();
        }
    }

    // ---- 1 the table, what is heard

    public int table(int r, int m) {
        if (r < 1 || r > MOST_ROWS || m < 1 || m > MOST_COLUMNS) {
            return BAD;
        }
        mix.reshape(r, m);
        acts.forget();
        return 1;
    }

    public int letters(int a) {
        if (a != 2 && a != 4) {
            return BAD;
        }
        int was = mix.letterCount;
        mix.choose(a);
        acts.forget();
        return was;
    }

    public int set(int row, int column, int v) {
        if (!mix.hasRow(row) || !mix.hasColumn(column) || !within(v, MOST_NUMBER)) {
            return BAD_SET;
        }
        return acts.take(row, column, v);
    }

    public int hear(int row, int v) {
        if (!mix.hasRow(row) || !within(v, MOST_HEARD)) {
            return BAD_TOLD;
        }
        return acts.take(row, mix.width, v);
    }

    public int undo() {
        return acts.canGoBack() ? acts.goBack() : NOT;
    }

    public int redo() {
        return acts.canGoOn() ? acts.goOn() : NOT;
    }

    public int told(int row, int column) {
        if (!mix.hasRow(row) || !(mix.hasColumn(column) || column == mix.width)) {
            return BAD_TOLD;
        }
        return mix.at(row, column);
    }

    public int type(long w, int n) {
        if (n < 1 || n > 8 || !Tape.takes(w, n)) {
            return BAD;
        }
        return tape.hasRoom(n) ? tape.append(w, n) : FULL;
    }

    public int read() {
        int fault = reader.parse();
        tape.clear();
        if (fault != 0) {
            return fault;
        }
        mix.reshape(reader.height, reader.width);
        for (int row = 0; row < mix.height; row++) {
            for (int column = 0; column < mix.width; column++) {
                mix.put(row, column, reader.cells[row][column]);
            }
        }
        acts.forget();
        return mix.height;
    }

    // ---- 2 words

    public int off(int word) {
        return word < 0 || word >= mix.wordCount() ? BAD : words.offOf(word);
    }

    public int nearest(int i) {
        return i < 0 || i >= mix.wordCount() ? BAD : words.ranked(i);
    }

    public int soft(int column, int b) {
        if (!mix.hasColumn(column) || b < 0 || b >= mix.bitsOfLetter()) {
            return BAD_SOFT;
        }
        return words.leastWith(column, b, 1) - words.leastWith(column, b, 0);
    }

    public int gram(int i, int j) {
        if (!mix.hasColumn(i) || !mix.hasColumn(j)) {
            return BAD_TOLD;
        }
        return product(mix.cells, mix.height, i, j);
    }

    public long worth(int columns) {
        if (columns < 1 || columns >= 1 << mix.width) {
            return BAD;
        }
        return least.worthOf(mix, columns);
    }

    public int undone() {
        least.solve(mix.cells, mix.heard, mix.height, mix.width);
        if (least.below <= 0) {
            return NOT;
        }
        int word = 0;
        for (int column = 0; column < mix.width; column++) {
            word = mix.follow(word, nearestLetter(least.above[column], least.below, mix.letterCount));
        }
        return word;
    }

    public long fraction(int column, int what) {
        if (!mix.hasColumn(column) || what < 0 || what > 1) {
            return BAD - FAR_BELOW;
        }
        least.solve(mix.cells, mix.heard, mix.height, mix.width);
        if (least.below <= 0) {
            return NOT - FAR_BELOW;
        }
        long above = least.above[column];
        long divisor = Math.max(1L, commonDivisor(Math.abs(above), least.below));
        return (what == 0 ? above : least.below) / divisor;
    }

    public int taken() {
        taker.takeAll();
        int word = 0;
        for (int column = 0; column < mix.width; column++) {
            word = mix.follow(word, taker.indexes[column]);
        }
        return word;
    }

    public int order(int i) {
        if (!mix.hasColumn(i)) {
            return BAD;
        }
        taker.takeAll();
        return taker.sequence[i];
    }

    public int led() {
        leader.lead();
        return leader.times;
    }

    public int ledAt(int which, int row, int column) {
        boolean isPlace = mix.hasColumn(column)
            && (which == 0 && mix.hasRow(row) || which == 1 && mix.hasColumn(row));
        if (!isPlace) {
            return BAD_LED;
        }
        leader.lead();
        return which == 0 ? leader.columns[row][column] : leader.steps[row][column];
    }

    public int ledWord() {
        leader.lead();
        leader.aim();
        least.solve(leader.columns, leader.target, mix.height, mix.width);
        if (least.below <= 0) {
            return NOT;
        }
        int word = 0;
        for (int row = 0; row < mix.width; row++) {
            long u = 0;
            for (int column = 0; column < mix.width; column++) {
                u += leader.steps[row][column] * nearestHalf(least.above[column], least.below);
            }
            word = mix.follow(word, held(u, mix.letterCount));
        }
        return word;
    }

    public int chosen(int k) {
        if (k < 1 || k > mix.width) {
            return BAD;
        }
        int best = 0;
        long bestWorth = -1;
        // Going down with column 0 as the highest bit meets the sets in the order of their columns' numbers.
        for (int mirrored = (1 << mix.width) - 1; mirrored >= 1; mirrored--) {
            int columns = mirror(mirrored, mix.width);
            if (Integer.bitCount(columns) != k) {
                continue;
            }
            long itsWorth = least.worthOf(mix, columns);
            if (itsWorth > bestWorth) {
                best = columns;
                bestWorth = itsWorth;
            }
        }
        return best;
    }

    // ---- 3 sheets

    public int sheet(int sheet, int lane, int n) {
        if (!isSheet(sheet) || !isLane(lane) || n > MOST_ITEMS) {
            return BAD;
        }
        if (n < 0) {
            return SIZE;
        }
        sheets[sheet].renew(lane, n);
        return n;
    }

    public int drop(int sheet) {
        if (!isSheet(sheet)) {
            return BAD;
        }
        if (!sheets[sheet].holds()) {
            return NULL;
        }
        int had = sheets[sheet].length;
        sheets[sheet].empty();
        return had;
    }

    public int item(int sheet, int lane, int i, int v) {
        int why = refusal(sheet, lane, i, 1);
        if (why != 0) {
            return why;
        }
        sheets[sheet].put(i, v);
        return 1;
    }

    public int rows(int sheet, int lane, int i) {
        int why = refusal(sheet, lane, i, mix.height * (mix.width + 1));
        if (why != 0) {
            return why;
        }
        if (!mix.takes(sheets[sheet].items, i)) {
            return NOT;
        }
        mix.copy(sheets[sheet].items, i);
        acts.forget();
        return mix.height;
    }

    // ---- what several calls need

    private static boolean within(long v, int most) {
        return v >= -most && v <= most;
    }

    private static boolean isSheet(int sheet) {
        return sheet >= 0 && sheet < SHEETS;
    }

    private static boolean isLane(int lane) {
        return lane >= 0 && lane < LANES;
    }

    /** Why so many items of a sheet from i on can't be had as a row of a lane, or 0. */
    private int refusal(int sheet, int lane, int i, int count) {
        if (!isSheet(sheet) || !isLane(lane)) {
            return BAD;
        }
        if (!sheets[sheet].holds()) {
            return NULL;
        }
        if (sheets[sheet].lane != lane) {
            return CAST;
        }
        // i + count could wrap around.
        return i < 0 || i > sheets[sheet].length - count ? INDEX : 0;
    }

    private static int product(int[][] columns, int height, int i, int j) {
        int sum = 0;
        for (int row = 0; row < height; row++) {
            sum += columns[row][i] * columns[row][j];
        }
        return sum;
    }

    /** Which LETTER, counted from the least, is nearest to above / below; of two as near the lesser. */
    private static int nearestLetter(long above, long below, int letterCount) {
        if (below <= 0) {
            return 0;
        }
        return held(roundedUp(above + (letterCount - 2) * below, 2 * below), letterCount);
    }

    /** The whole number nearest to half of above / below; of two as near the lesser. */
    private static long nearestHalf(long above, long below) {
        return below <= 0 ? 0 : roundedUp(above - below, 2 * below);
    }

    private static long roundedUp(long above, long below) {
        return below <= 0 ? 0 : -Math.floorDiv(-above, below);
    }

    private static int held(long index, int letterCount) {
        return (int) Math.max(0L, Math.min(index, letterCount - 1L));
    }

    private static long commonDivisor(long a, long b) {
        long more = a;
        long less = b;
        // Every second round halves a number at least, so 64 bits are through long before.
        for (int round = 0; round < 200 && less != 0; round++) {
            long rest = more % less;
            more = less;
            less = rest;
        }
        return more;
    }

    private static int mirror(int bits, int width) {
        int mirrored = 0;
        for (int i = 0; i < width; i++) {
            mirrored = mirrored << 1 | bits >> i & 1;
        }
        return mirrored;
    }

    /**
     * THE TABLE, LETTERS and what is HEARD. Every change moves the stamp on, so that whoever keeps something worked
     * out of it sees that it is old.
     */
    private static final class Mix {
        int height = 2;
        int width = 2;
        int letterCount = 2;
        int stamp = 1;
        final int[][] cells = new int[MOST_ROWS][MOST_COLUMNS];
        final int[] heard = new int[MOST_ROWS];

        boolean hasRow(int row) {
            return row >= 0 && row < height;
        }

        boolean hasColumn(int column) {
            return column >= 0 && column < width;
        }

        int bitsOfLetter() {
            return letterCount == 4 ? 2 : 1;
        }

        int wordCount() {
            return 1 << bitsOfLetter() * width;
        }

        /** The NUMBER of a word that has one more LETTER behind. */
        int follow(int word, int index) {
            return word * letterCount + index;
        }

        void choose(int newCount) {
            letterCount = newCount;
            stamp++;
        }

        void reshape(int newHeight, int newWidth) {
            height = newHeight;
            width = newWidth;
            for (int row = 0; row < MOST_ROWS; row++) {
                Arrays.fill(cells[row], 0);
            }
            Arrays.fill(heard, 0);
            stamp++;
        }

        /** A number of THE TABLE; in the column behind the last, what is HEARD. */
        int at(int row, int column) {
            return column == width ? heard[row] : cells[row][column];
        }

        void put(int row, int column, int v) {
            if (column == width) {
                heard[row] = v;
            } else {
                cells[row][column] = v;
            }
            stamp++;
        }

        /** Whether items from one on are numbers of THE TABLE, row by row with what is HEARD behind each. */
        boolean takes(long[] items, int from) {
            int place = from;
            for (int row = 0; row < height; row++) {
                for (int column = 0; column <= width; column++) {
                    if (!within(items[place], column == width ? MOST_HEARD : MOST_NUMBER)) {
                        return false;
                    }
                    place++;
                }
            }
            return true;
        }

        void copy(long[] items, int from) {
            int place = from;
            for (int row = 0; row < height; row++) {
                for (int column = 0; column <= width; column++) {
                    put(row, column, (int) items[place]);
                    place++;
                }
            }
        }
    }

    /** The latest ACTS in a ring: those that can be UNDONE, and right behind them those that can be DONE again. */
    private static final class Acts {
        private static final int MOST = 40;

        private final Mix mix;
        private final int[] rowOf = new int[MOST];
        private final int[] columnOf = new int[MOST];
        private final int[] before = new int[MOST];
        private final int[] after = new int[MOST];
        private int oldest = 0;
        private int back = 0;
        private int on = 0;

        Acts(Mix mix) {
            this.mix = mix;
        }

        void forget() {
            oldest = 0;
            back = 0;
            on = 0;
        }

        /** Does an ACT and keeps it: the number that was there. */
        int take(int row, int column, int v) {
            int was = mix.at(row, column);
            if (back == MOST) {
                oldest = (oldest + 1) % MOST;
                back--;
            }
            int slot = (oldest + back) % MOST;
            rowOf[slot] = row;
            columnOf[slot] = column;
            before[slot] = was;
            after[slot] = v;
            back++;
            on = 0;
            mix.put(row, column, v);
            return was;
        }

        boolean canGoBack() {
            return back > 0;
        }

        boolean canGoOn() {
            return on > 0;
        }

        int goBack() {
            back--;
            on++;
            int slot = (oldest + back) % MOST;
            mix.put(rowOf[slot], columnOf[slot], before[slot]);
            return back;
        }

        int goOn() {
            int slot = (oldest + back) % MOST;
            back++;
            on--;
            mix.put(rowOf[slot], columnOf[slot], after[slot]);
            return on;
        }
    }

    /** THE TAPE: bytes that were typed and not read yet. */
    private static final class Tape {
        private static final int MOST = 90;
        static final int END = -1;

        private final byte[] bytes = new byte[MOST];
        int length = 0;

        static boolean takes(long w, int n) {
            for (int k = 0; k < n; k++) {
                int b = byteOf(w, k);
                if (b < 32 || b > 126) {
                    return false;
                }
            }
            return true;
        }

        private static int byteOf(long w, int k) {
            return (int) (w >> 8 * k & 255);
        }

        boolean hasRoom(int n) {
            return length <= MOST - n;
        }

        int append(long w, int n) {
            for (int k = n - 1; k >= 0; k--) {
                bytes[length] = (byte) byteOf(w, k);
                length++;
            }
            return length;
        }

        int at(int place) {
            return place >= 0 && place < length ? bytes[place] : END;
        }

        void clear() {
            length = 0;
        }
    }

    /** Reads a table from THE TAPE into cells of its own, so that a FAULT leaves THE TABLE as it was. */
    private static final class Reader {
        private static final int FAULT = -20;

        private final Tape tape;
        final int[][] cells = new int[MOST_ROWS][MOST_COLUMNS];
        int height;
        int width;
        private int inRow;
        private int place;

        Reader(Tape tape) {
            this.tape = tape;
        }

        /** 0, or the FAULT. */
        int parse() {
            height = 0;
            width = 0;
            inRow = 0;
            place = 0;
            for (int numbers = 0; numbers < MOST_ROWS * MOST_COLUMNS; numbers++) {
                if (!takeNumber()) {
                    return FAULT - place;
                }
                skipBlanks();
                if (tape.at(place) == Tape.END && isRowWhole()) {
                    endRow();
                    return 0;
                }
                if (!takeSign()) {
                    return FAULT - place;
                }
            }
            return FAULT - place;
        }

        private void skipBlanks() {
            while (place < tape.length && tape.at(place) == ' ') {
                place++;
            }
        }

        private boolean isDigit() {
            return tape.at(place) >= '0' && tape.at(place) <= '9';
        }

        /** Takes a number with its sign; where it can't, the place is that of the fault. */
        private boolean takeNumber() {
            skipBlanks();
            boolean isNegative = tape.at(place) == '-';
            if (isNegative) {
                place++;
                skipBlanks();
            }
            if (!isDigit() || height >= MOST_ROWS || inRow >= MOST_COLUMNS) {
                return false;
            }
            int first = place;
            int value = 0;
            while (place < tape.length && isDigit()) {
                // Held just above the most, as there may be more digits than an int takes.
                value = Math.min(value * 10 + tape.at(place) - '0', MOST_NUMBER + 1);
                place++;
            }
            if (value > MOST_NUMBER) {
                place = first;
                return false;
            }
            cells[height][inRow] = isNegative ? -value : value;
            inRow++;
            return true;
        }

        private boolean isRowWhole() {
            return height == 0 || inRow == width;
        }

        private void endRow() {
            width = inRow;
            inRow = 0;
            height++;
        }

        private boolean takeSign() {
            int sign = tape.at(place);
            if (sign == ',' && inRow < (height == 0 ? MOST_COLUMNS : width)) {
                place++;
                return true;
            }
            if (sign == ';' && isRowWhole() && height < MOST_ROWS - 1) {
                endRow();
                place++;
                return true;
            }
            return false;
        }
    }

    /** OFF of the WORDS, and all of them by it. */
    private static final class Words {
        private final Mix mix;
        private final int[] offs = new int[MOST_WORDS];
        private final int[] byOff = new int[MOST_WORDS];
        private final int[] spare = new int[MOST_WORDS];
        private int offsStamp = 0;
        private int byOffStamp = 0;

        Words(Mix mix) {
            this.mix = mix;
        }

        int offOf(int word) {
            int sum = 0;
            for (int row = 0; row < mix.height; row++) {
                int left = mix.heard[row];
                for (int column = 0; column < mix.width; column++) {
                    left -= mix.cells[row][column] * (2 * indexOf(word, column) - mix.letterCount + 1);
                }
                sum += left * left;
            }
            return sum;
        }

        /** The LETTER of a column, counted from the least. */
        private int indexOf(int word, int column) {
            return word >> mix.bitsOfLetter() * (mix.width - 1 - column) & mix.letterCount - 1;
        }

        private int bitOf(int word, int column, int b) {
            int index = indexOf(word, column);
            if (mix.letterCount == 2) {
                return index;
            }
            return b == 0 ? index >> 1 : (index >> 1 ^ index) & 1;
        }

        int leastWith(int column, int b, int value) {
            workOutOffs();
            int best = BEYOND_OFF;
            for (int word = 0; word < mix.wordCount(); word++) {
                if (bitOf(word, column, b) == value) {
                    best = Math.min(best, offs[word]);
                }
            }
            return best;
        }

        int ranked(int i) {
            workOutOffs();
            sortByOff();
            return byOff[i];
        }

        private void workOutOffs() {
            if (offsStamp == mix.stamp) {
                return;
            }
            for (int word = 0; word < mix.wordCount(); word++) {
                offs[word] = offOf(word);
            }
            offsStamp = mix.stamp;
        }

        private void sortByOff() {
            if (byOffStamp == mix.stamp) {
                return;
            }
            int count = mix.wordCount();
            for (int word = 0; word < count; word++) {
                byOff[word] = word;
            }
            for (int run = 1; run < count; run *= 2) {
                for (int from = 0; from < count; from += 2 * run) {
                    mergeRuns(from, Math.min(from + run, count), Math.min(from + 2 * run, count));
                }
                System.arraycopy(spare, 0, byOff, 0, count);
            }
            byOffStamp = mix.stamp;
        }

        /** Of like ones the left goes first, which keeps them by NUMBER. */
        private void mergeRuns(int from, int middle, int end) {
            int left = from;
            int right = middle;
            for (int to = from; to < end; to++) {
                if (left < middle && (right >= end || offs[byOff[left]] <= offs[byOff[right]])) {
                    spare[to] = byOff[left];
                    left++;
                } else {
                    spare[to] = byOff[right];
                    right++;
                }
            }
        }
    }

    /** THE GRAM's determinants, and by them the fractions of least squares: above[column] / below. */
    private static final class Least {
        private final long[][] square = new long[MOST_COLUMNS][MOST_COLUMNS];
        private final long[] right = new long[MOST_COLUMNS];
        private final int[] picked = new int[MOST_COLUMNS];
        final long[] above = new long[MOST_COLUMNS];
        long below;

        long worthOf(Mix mix, int columns) {
            int size = 0;
            for (int column = 0; column < mix.width; column++) {
                if ((columns >> column & 1) == 1) {
                    picked[size] = column;
                    size++;
                }
            }
            for (int i = 0; i < size; i++) {
                for (int j = 0; j < size; j++) {
                    square[i][j] = product(mix.cells, mix.height, picked[i], picked[j]);
                }
            }
            return determinant(square, size, 0, (1 << size) - 1);
        }

        void solve(int[][] columns, int[] target, int height, int width) {
            for (int i = 0; i < width; i++) {
                right[i] = 0;
                for (int row = 0; row < height; row++) {
                    right[i] += columns[row][i] * target[row];
                }
                for (int j = 0; j < width; j++) {
                    square[i][j] = product(columns, height, i, j);
                }
            }
            below = determinant(square, width, 0, (1 << width) - 1);
            for (int column = 0; column < width; column++) {
                swapRight(column, width);
                above[column] = determinant(square, width, 0, (1 << width) - 1);
                swapRight(column, width);
            }
        }

        private void swapRight(int column, int width) {
            for (int i = 0; i < width; i++) {
                long kept = square[i][column];
                square[i][column] = right[i];
                right[i] = kept;
            }
        }

        /** Of the rows from one on and the columns that are free, as bits; at most MOST_COLUMNS deep. */
        private static long determinant(long[][] square, int size, int row, int free) {
            if (row >= size) {
                return 1;
            }
            long sum = 0;
            long sign = 1;
            for (int column = 0; column < size; column++) {
                if ((free >> column & 1) == 0) {
                    continue;
                }
                if (square[row][column] != 0) {
                    sum += sign * square[row][column] * determinant(square, size, row + 1, free & ~(1 << column));
                }
                sign = -sign;
            }
            return sum;
        }
    }

    /** TAKEN WORD. */
    private static final class Taker {
        private final Mix mix;
        private final int[] left = new int[MOST_ROWS];
        final int[] sequence = new int[MOST_COLUMNS];
        final int[] indexes = new int[MOST_COLUMNS];

        Taker(Mix mix) {
            this.mix = mix;
        }

        void takeAll() {
            System.arraycopy(mix.heard, 0, left, 0, MOST_ROWS);
            int gone = 0;
            for (int i = 0; i < mix.width; i++) {
                int column = greatest(gone);
                sequence[i] = column;
                gone |= 1 << column;
                takeOff(column);
            }
        }

        private int greatest(int gone) {
            int best = 0;
            int bestSquares = -1;
            for (int column = 0; column < mix.width; column++) {
                int squares = product(mix.cells, mix.height, column, column);
                if ((gone >> column & 1) == 0 && squares > bestSquares) {
                    best = column;
                    bestSquares = squares;
                }
            }
            return best;
        }

        private void takeOff(int column) {
            int above = 0;
            for (int row = 0; row < mix.height; row++) {
                above += mix.cells[row][column] * left[row];
            }
            // A column of 0s has 0 above too, and the fraction 0 / 1.
            int below = Math.max(1, product(mix.cells, mix.height, column, column));
            indexes[column] = nearestLetter(above, below, mix.letterCount);
            int letter = 2 * indexes[column] - mix.letterCount + 1;
            for (int row = 0; row < mix.height; row++) {
                left[row] -= letter * mix.cells[row][column];
            }
        }
    }

    /** LED: the shorter columns, and in steps the table T by which they come of THE TABLE's. */
    private static final class Leader {
        // Each time the squares' sum, 5 * 4 * 81 at most, gets less by 1 at least.
        private static final int MOST_TIMES = 2000;

        private final Mix mix;
        final int[][] columns = new int[MOST_ROWS][MOST_COLUMNS];
        final int[][] steps = new int[MOST_COLUMNS][MOST_COLUMNS];
        final int[] target = new int[MOST_ROWS];
        int times;
        private int stamp = 0;

        Leader(Mix mix) {
            this.mix = mix;
        }

        void lead() {
            if (stamp == mix.stamp) {
                return;
            }
            begin();
            while (times < MOST_TIMES && shortenFirst()) {
                times++;
            }
            stamp = mix.stamp;
        }

        private void begin() {
            times = 0;
            for (int row = 0; row < MOST_ROWS; row++) {
                System.arraycopy(mix.cells[row], 0, columns[row], 0, MOST_COLUMNS);
            }
            for (int row = 0; row < MOST_COLUMNS; row++) {
                for (int column = 0; column < MOST_COLUMNS; column++) {
                    steps[row][column] = row == column ? 1 : 0;
                }
            }
        }

        private boolean shortenFirst() {
            for (int i = 0; i < mix.width; i++) {
                for (int j = 0; j < mix.width; j++) {
                    int q = i == j ? 0 : quotient(i, j);
                    // A q that is not 0 is nearer to the fraction than 0 is, and so the squares get less just then.
                    if (q != 0) {
                        shorten(i, j, q);
                        return true;
                    }
                }
            }
            return false;
        }

        private int quotient(int i, int j) {
            int below = product(columns, mix.height, j, j);
            if (below <= 0) {
                return 0;
            }
            int above = product(columns, mix.height, i, j);
            // What is added is just short of a half, so that of two as near that nearer to 0 is met.
            int size = (2 * Math.abs(above) + below - 1) / (2 * below);
            return above < 0 ? -size : size;
        }

        private void shorten(int i, int j, int q) {
            for (int row = 0; row < mix.height; row++) {
                columns[row][i] -= q * columns[row][j];
            }
            for (int row = 0; row < mix.width; row++) {
                steps[row][i] -= q * steps[row][j];
            }
        }

        /** Makes the target of LED WORD: LETTERS 2 u - A + 1 turn it into a search for whole numbers u. */
        void aim() {
            for (int row = 0; row < mix.height; row++) {
                int sum = 0;
                for (int column = 0; column < mix.width; column++) {
                    sum += mix.cells[row][column];
                }
                target[row] = mix.heard[row] + (mix.letterCount - 1) * sum;
            }
        }
    }

    /** Holds nothing, or a row of a LANE; the longest row stands ready, so that a new one makes no array. */
    private static final class Sheet {
        private static final int NOTHING = -1;

        int lane = NOTHING;
        int length = 0;
        final long[] items = new long[MOST_ITEMS];

        boolean holds() {
            return lane != NOTHING;
        }

        void renew(int newLane, int n) {
            lane = newLane;
            length = n;
            Arrays.fill(items, 0L);
        }

        void empty() {
            lane = NOTHING;
            length = 0;
        }

        void put(int i, int v) {
            items[i] = lane == 0 ? (byte) v : v;
        }
    }
}
