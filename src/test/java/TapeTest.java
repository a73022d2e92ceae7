import java.util.Arrays;

/** Promises 9 and 10: type, read. */
public final class TapeTest {
    public static void main(String[] args) {
        type();
        wrongType();
        full();
        good();
        faults();
        whatReadLeaves();
        everyByte();
        everyCountAndRoom();
        whatCanStandWhere();
        blanksEverywhere();
        ninetyBytes();
        largestNumbers();
        Due.end(TapeTest.class);
    }

    private static void type() {
        MixedWords x = new MixedWords();
        Due.is("type of '1,2'", x.type(0x312C32L, 3), 3);
        Due.is("type of ';3,4' less what stands above", x.type(0x7F003B332C34L, 4), 7);
        Due.is("read()", x.read(), 2);
        Due.is("told(0, 0)", x.told(0, 0), 1);
        Due.is("told(0, 1)", x.told(0, 1), 2);
        Due.is("told(1, 0)", x.told(1, 0), 3);
        Due.is("told(1, 1)", x.told(1, 1), 4);
        Due.is("type of eight", x.type(0x7E7E202020202020L, 8), 8);
        Due.is("read() of '~'", x.read(), -20);
    }

    private static void wrongType() {
        MixedWords x = new MixedWords();
        for (int n : new int[] {0, 9, -1, Integer.MIN_VALUE, Integer.MAX_VALUE}) {
            Due.is("type(.., " + n + ")", x.type(0x3131313131313131L, n), MixedWords.BAD);
        }
        Due.is("a byte 31", x.type(31, 1), MixedWords.BAD);
        Due.is("a byte 127", x.type(127, 1), MixedWords.BAD);
        Due.is("a byte 128", x.type(128, 1), MixedWords.BAD);
        Due.is("a byte 0 ahead", x.type(0x31L, 2), MixedWords.BAD);
        Due.is("a byte 31 in the middle", x.type(0x311F31L, 3), MixedWords.BAD);
        Due.is("bytes 255", x.type(-1L, 8), MixedWords.BAD);
        Due.is("a highest byte 177", x.type(0xB131313131313131L, 8), MixedWords.BAD);
        Due.is("a byte 32", x.type(32, 1), 1);
        Due.is("a byte 126", x.type(126, 1), 2);
        Due.is("read(): what was BAD is not there", x.read(), -21);
    }

    private static void full() {
        MixedWords x = new MixedWords();
        for (int k = 1; k <= 11; k++) {
            Due.is("type of eight", x.type(0x2020202020202020L, 8), 8 * k);
        }
        Due.is("type of eight", x.type(0x2020202020202020L, 8), MixedWords.FULL);
        Due.is("type of three", x.type(0x202020L, 3), MixedWords.FULL);
        Due.is("type of a blank and 1", x.type(0x2031L, 2), 90);
        Due.is("type of one", x.type(0x20L, 1), MixedWords.FULL);
        Due.is("BAD is named before FULL", x.type(31L, 1), MixedWords.BAD);
        Due.is("read()", x.read(), 1);
        Due.is("told(0, 0)", x.told(0, 0), 1);
        Due.is("type behind read", x.type(0x20L, 1), 1);
    }

    private static void readsAs(String text, int... numbers) {
        MixedWords x = new MixedWords();
        Due.type(x, text);
        int rows = 1;
        for (int i = 0; i < text.length(); i++) {
            rows += text.charAt(i) == ';' ? 1 : 0;
        }
        Due.is("read() of '" + text + "'", x.read(), rows);
        int columns = numbers.length / rows;
        for (int k = 0; k < numbers.length; k++) {
            Due.is("told of '" + text + "'", x.told(k / columns, k % columns), numbers[k]);
        }
        Due.is("told behind HEARD of '" + text + "'", x.told(0, columns + 1), -10001);
        Due.is("told below of '" + text + "'", x.told(rows, 0), -10001);
    }

    private static void good() {
        readsAs("0", 0);
        readsAs("-9", -9);
        readsAs("-0", 0);
        readsAs("9,8,7,6", 9, 8, 7, 6);
        readsAs("1;2;3;4;5", 1, 2, 3, 4, 5);
        readsAs("1,2;3,4", 1, 2, 3, 4);
        readsAs("  - 1 ,2 ; 3,  -  4  ", -1, 2, 3, -4);
        readsAs("007,-0009", 7, -9);
        readsAs("0000000000000000000000000000000000000005", 5);
        readsAs("1,2,3,4;5,6,7,8;9,0,1,2;3,4,5,6;7,8,9,-1", 1, 2, 3, 4, 5, 6, 7, 8, 9, 0, 1, 2, 3, 4, 5, 6, 7, 8, 9, -1);
    }

    private static void faultAt(String text, int place) {
        MixedWords x = Due.of("1,2;3,4", 2, 7, 8);
        Due.type(x, text);
        Due.is("read() of '" + text + "'", x.read(), -20 - place);
        Due.is("the table stays", x.told(1, 1), 4);
        Due.is("HEARD stays", x.told(1, 2), 8);
        Due.is("the tape is empty", x.type(' ', 1), 1);
    }

    private static void faults() {
        faultAt("", 0);
        faultAt("   ", 3);
        faultAt("-", 1);
        faultAt("-  ", 3);
        faultAt("--1", 1);
        faultAt("- -1", 2);
        faultAt("+1", 0);
        faultAt("  x", 2);
        faultAt("1x", 1);
        faultAt("1 x", 2);
        faultAt("1 2", 2);
        faultAt("1-", 1);
        faultAt("1-2", 1);
        faultAt(",1", 0);
        faultAt(";1", 0);
        faultAt("1,", 2);
        faultAt("1,  ", 4);
        faultAt("1,,2", 2);
        faultAt("1;;2", 2);
        faultAt("1,;2", 2);
        faultAt("1;", 2);
        faultAt("1;  ", 4);
        faultAt("1.5", 1);
        faultAt("10", 0);
        faultAt(" -10", 2);
        faultAt("- 10", 2);
        faultAt("1,2;3,0010", 6);
        faultAt("10x", 0);
        faultAt("1,99999999999999999999", 2);
        faultAt("4294967296", 0);
        faultAt("18446744073709551617", 0);
        faultAt("1,2,3,4,5", 7);
        faultAt("1,2,3,4 ,", 8);
        faultAt("1,2;3,4,5", 7);
        faultAt("1;2,3", 3);
        faultAt("1,2;3", 5);
        faultAt("1,2;3  ", 7);
        faultAt("1,2;3;4,5", 5);
        faultAt("1,2;3 ;4,5", 6);
        faultAt("1;2;3;4;5;6", 9);
        faultAt("1;2;3;4;5;", 9);
        faultAt("1,2;3,4;5,6;7,8;9", 17);
    }

    private static void whatReadLeaves() {
        MixedWords x = Due.of("1,2;3,4", 4, 7, 8);
        x.sheet(1, 0, 3);
        Due.type(x, "5;6;7");
        Due.is("read()", x.read(), 3);
        Due.is("HEARD is 0", x.told(0, 1), 0);
        Due.is("HEARD is 0", x.told(1, 1), 0);
        Due.is("undo()", x.undo(), MixedWords.NOT);
        Due.is("read() again: the tape is empty", x.read(), -20);
        Due.is("the table stays", x.told(2, 0), 7);
        Due.is("letters stay", x.letters(4), 4);
        Due.is("the sheets stay", x.drop(1), 3);
        Due.type(x, "1,2");
        Due.is("read()", x.read(), 1);
        Due.is("told(1, 0)", x.told(1, 0), -10001);
        // Nothing of the table changed, so its ACTS stay with it.
        x.set(0, 0, 5);
        x.set(0, 0, 6);
        x.undo();
        Due.is("read() of nothing", x.read(), -20);
        Due.is("redo() behind a FAULT", x.redo(), 0);
        Due.is("undo() behind a FAULT", x.undo(), 1);
    }

    /** "a byte not 32 .. 126", at each of the eight places. */
    private static void everyByte() {
        for (int place = 0; place < 8; place++) {
            MixedWords x = new MixedWords();
            for (int b = 0; b < 256; b++) {
                long w = 0x3131313131313131L & ~(255L << 8 * place) | (long) b << 8 * place;
                boolean isGood = b >= 32 && b <= 126;
                if (isGood && b % 11 == 0) {
                    x.read();
                    Due.is("eight with a byte " + b + " at " + place, x.type(w, 8), 8);
                } else if (!isGood) {
                    Due.is("eight with a byte " + b + " at " + place, x.type(w, 8), MixedWords.BAD);
                }
            }
        }
        for (int b = 32; b <= 126; b++) {
            MixedWords x = new MixedWords();
            Due.is("a byte " + b, x.type(b, 1), 1);
            Due.is("a byte " + b + " below others that do not count", x.type(~0xFFL | b, 1), 2);
        }
    }

    /** n from 1 to 8, and FULL from every length near 90 on: what fits just and what is one too many. */
    private static void everyCountAndRoom() {
        for (int length = 80; length <= 90; length++) {
            for (int n = 1; n <= 8; n++) {
                MixedWords x = new MixedWords();
                for (int k = 1; k <= length; k++) {
                    Due.is("type of one", x.type(k == length ? '3' : ' ', 1), k);
                }
                boolean fits = length + n <= 90;
                Due.is(n + " behind " + length, x.type(0x2020202020202020L, n), fits ? length + n : MixedWords.FULL);
                Due.is("read()", x.read(), 1);
                Due.is("told(0, 0)", x.told(0, 0), 3);
                Due.is("told(1, 0): one row", x.told(1, 0), -10001);
            }
        }
        for (int n = 1; n <= 8; n++) {
            MixedWords x = new MixedWords();
            Due.is("the " + n + " lowest bytes", x.type(0x387E36342C322C31L, n), n);
            // 1 | ,1 | 2,1 | ,2,1 | 4,2,1 | 64,2,1 | ~64,2,1 | 8~64,2,1
            int[] due = {1, -20, 1, -20, 1, -20, -20, -21};
            Due.is("read() of the " + n + " lowest", x.read(), due[n - 1]);
        }
    }

    /** Each byte behind each beginning: the first that can't stand there is told by its place. */
    private static void whatCanStandWhere() {
        String digits = "0123456789";
        String[][] goes = {
            {"", digits + "- "}, {"-", digits + " "}, {" - ", digits + " "}, {"1,", digits + "- "}, {"1;", digits + "- "},
            {"1", ",; "}, {"1 ", ",; "}, {"-1", ",; "}, {"1,2,3", ",; "}, {"1,2,3,4", "; "}, {"1,2;3", ", "},
            {"1,2;3,4", "; "}, {"1;2", "; "}, {"1;2;3;4;5", " "}, {"1,2;3,4;5,6;7,8;9", ", "},
            {"1,2;3,4;5,6;7,8;9,1", " "}, {"1,2,3,4;5,6,7,8;9,0,1", ", "}, {"1,2,3,4;5,6,7,8;9,0,1,2", "; "},
        };
        for (String[] go : goes) {
            boolean isInNumber = go[0].matches(".*[1-9]");
            for (char b = 32; b <= 126; b++) {
                if (go[1].indexOf(b) >= 0) {
                    goesOn(go[0], b);
                } else {
                    // One digit more makes the number above 9.
                    faultAt(go[0] + b, go[0].length() - (isInNumber && digits.indexOf(b) >= 0 ? 1 : 0));
                }
            }
        }
    }

    private static void goesOn(String start, char b) {
        MixedWords x = new MixedWords();
        Due.type(x, start + b);
        int got = x.read();
        Due.holds("'" + start + b + "' has no fault before its end: " + got, got > 0 || got == -20 - start.length() - 1);
    }

    /** "bytes 32 count for nothing, but do not stand in a number". */
    private static void blanksEverywhere() {
        String good = "1,-03;4,5";
        for (int at = 0; at <= good.length(); at++) {
            String with = good.substring(0, at) + "  " + good.substring(at);
            if (at == good.indexOf("03") + 1) {
                faultAt(with, at + 2);
            } else {
                readsAs(with, 1, -3, 4, 5);
            }
        }
        faultAt("1 2,3", 2);
        faultAt("0 0", 2);
        faultAt("-1 0", 3);
        faultAt("          ", 10);
    }

    private static String blanks(int n) {
        return " ".repeat(n);
    }

    /** A TAPE of all 90 bytes: the last place, and the end behind it. */
    private static void ninetyBytes() {
        faultAt(blanks(90), 90);
        faultAt(blanks(89) + "-", 90);
        faultAt(blanks(89) + "x", 89);
        faultAt(blanks(88) + "1,", 90);
        faultAt(blanks(88) + "10", 88);
        faultAt("1;" + blanks(88), 90);
        faultAt("1,2;" + blanks(85) + "3", 90);
        faultAt("9".repeat(90), 0);
        faultAt("0".repeat(88) + "10", 0);
        readsAs("0".repeat(89) + "9", 9);
        readsAs("-" + "0".repeat(88) + "9", -9);
        readsAs(blanks(89) + "7", 7);
        readsAs("7" + blanks(89), 7);
        readsAs("-" + blanks(88) + "7", -7);
        String most = "-9,-9,-9,-9;".repeat(5).substring(0, 59);
        int[] numbers = new int[20];
        Arrays.fill(numbers, -9);
        readsAs(most + blanks(31), numbers);
        readsAs(blanks(31) + most, numbers);
    }

    /** "a number above 9: its first digit", also where it would come round to 0 .. 9 in fewer bits. */
    private static void largestNumbers() {
        String[] above = {
            "10", "11", "99", "100", "256", "265", "65536", "65540", "2147483647", "2147483648", "4294967296", "4294967301",
            "9223372036854775807", "9223372036854775808", "18446744073709551616", "18446744073709551620",
            "340282366920938463463374607431768211456", "010", "0000000000000000000000000000010",
        };
        for (String number : above) {
            faultAt(number, 0);
            faultAt("-" + number, 1);
            faultAt("- " + number, 2);
            faultAt("1," + number, 2);
            faultAt("1;-" + number, 3);
            faultAt(number + "x", 0);
            faultAt("1 ; " + number + " ;", 4);
        }
        for (int v = 0; v <= 9; v++) {
            readsAs(v + "," + -v + ",0" + v + ",-00" + v, v, -v, v, -v);
        }
    }
}
