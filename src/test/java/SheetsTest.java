import java.util.Arrays;

/** Promises 34 to 38. */
final class SheetsTest {
    private static final int[] STRANGE = {-1, 4, Integer.MIN_VALUE, Integer.MAX_VALUE};
    private static final Due due = new Due();

    public static void main(String[] args) {
        sheet();
        write();
        copy();
        copyOfForty();
        copyRefuses();
        load();
        judge();
        due.end();
    }

    private static void sheet() {
        for (int bits : new int[] {8, 16, 32}) {
            for (int n : new int[] {0, 1, 39, 40}) {
                MothTongue x = new MothTongue();
                String told = "sheet(3, " + bits + ", " + n + ")";
                due.is(told, x.sheet(3, bits, n), n);
                due.is("numbers of " + told, Observed.sizeOf(x, 3), n);
                due.is("all 0: " + told, x.judge(3), n > 6 ? 7 : 0);
                due.is("bits 0", x.sheet(3, 0, n), 0);
                due.is("it is MISSING", x.judge(3), Due.MISSING);
            }
        }
        MothTongue x = new MothTongue();
        Scenes.sheet(x, 0, 8, 1, 2, 3);
        Scenes.sheet(x, 1, 8, 4, 5, 6);
        due.is("the same again", x.sheet(0, 8, 3), 3);
        due.is("all 0 again", x.judge(0), 0);
        due.is("another one stays", x.load(1), 3);
        due.is("reads(0, 2)", x.reads(0, 2), 6);
        x.sheet(1, 8, 1);
        x.sheet(1, 8, 3);
        due.is("shorter, then longer: all 0", x.load(1), 3);
        due.is("page(0, 0)", x.page(0, 0), 0);
        due.is("missing ones may be made missing", x.sheet(2, 0, 40), 0);

        for (int s : STRANGE) {
            due.refuses("sheet(" + s + ", 8, 1)", Due.BEYOND, Scenes::busy, y -> y.sheet(s, 8, 1));
            due.refuses("sheet(" + s + ", 8, -1)", Due.BEYOND, Scenes::busy, y -> y.sheet(s, 8, -1));
        }
        for (int bits : new int[] {-8, 1, 7, 9, 24, 64, Integer.MIN_VALUE}) {
            due.refuses("sheet(0, " + bits + ", 1)", Due.BEYOND, Scenes::busy, y -> y.sheet(0, bits, 1));
            due.refuses("sheet(0, " + bits + ", -1)", Due.BEYOND, Scenes::busy, y -> y.sheet(0, bits, -1));
        }
        for (int bits : new int[] {0, 8, 16, 32}) {
            due.refuses("sheet(0, " + bits + ", -1)", Due.SIZE, Scenes::busy, y -> y.sheet(0, bits, -1));
            due.refuses("sheet(0, " + bits + ", MIN)", Due.SIZE, Scenes::busy, y -> y.sheet(0, bits, Integer.MIN_VALUE));
            due.refuses("sheet(0, " + bits + ", 41)", Due.BEYOND, Scenes::busy, y -> y.sheet(0, bits, 41));
            due.refuses("sheet(0, " + bits + ", MAX)", Due.BEYOND, Scenes::busy, y -> y.sheet(0, bits, Integer.MAX_VALUE));
        }
    }

    private static void write() {
        MothTongue x = new MothTongue();
        x.sheet(2, 32, 3);
        due.is("write(2, 0, 5)", x.write(2, 0, 5), 1);
        due.is("write(2, 2, 7)", x.write(2, 2, 7), 1);
        due.is("load(2)", x.load(2), 3);
        due.is("page(0, 0)", x.page(0, 0), 5 + 21);

        // What a page says tells what has been written.
        written(8, 0, 0);
        written(8, 256, 0);
        written(8, -256, 0);
        written(8, -129, 127);
        notWritten(8, 128, 128);
        notWritten(8, -128, 128);
        notWritten(8, 255, 255);
        notWritten(8, -1, 255);
        written(16, 128, 128);
        written(16, 255, 255);
        written(16, 256, 256);
        notWritten(16, 256, 0);
        written(16, 65536, 0);
        written(16, -65536 + 300, 300);
        written(16, Integer.MIN_VALUE, 0);
        notWritten(32, 65536, 0);
        notWritten(32, Integer.MIN_VALUE, 0);
        written(8, Integer.MIN_VALUE, 0);
        written(8, 127, 127);
        written(8, 256 + 100, 100);
        written(16, 324, 324);
        written(16, 65536 + 324, 324);
        written(32, 324, 324);
        notWritten(8, 200, 200);
        notWritten(8, 324, 324);
        notWritten(32, 65536 + 324, 324);
        MothTongue low = new MothTongue();
        low.sheet(0, 8, 1);
        low.write(0, 0, -256);
        due.is("-256 by 8 bits is 0", low.judge(0), 0);

        for (int s : STRANGE) {
            due.refuses("write(" + s + ", 0, 0)", Due.BEYOND, Scenes::busy, y -> y.write(s, 0, 0));
        }
        for (int i : new int[] {-1, 3, 40, Integer.MIN_VALUE, Integer.MAX_VALUE}) {
            due.refuses("write(0, " + i + ", 0)", Due.BEYOND, Scenes::busy, y -> y.write(0, i, 0));
            due.refuses("write(3, " + i + ", 0)", Due.MISSING, Scenes::busy, y -> y.write(3, i, 0));
        }
        due.refuses("write to a sheet of no numbers", Due.BEYOND, y -> y.sheet(0, 8, 0), y -> y.write(0, 0, 0));
    }

    private static void written(int bits, int v, int says) {
        due.is(v + " by " + bits + " bits is " + says, judgeOf(bits, v, says), 0);
    }

    private static void notWritten(int bits, int v, int says) {
        due.is(v + " by " + bits + " bits isn't " + says, judgeOf(bits, v, says), 1);
    }

    private static int judgeOf(int bits, int v, int says) {
        MothTongue x = new MothTongue();
        int left = says;
        for (int place = 7; place >= 0; place--) {
            int word = Math.min(9, left / (place + 1));
            x.word(0, place, word);
            left -= word * (place + 1);
        }
        due.is("the page says " + says, x.page(0, 0), says);
        x.sheet(0, bits, 1);
        x.write(0, 0, v);
        return x.judge(0);
    }

    private static void isSheet(String told, MothTongue x, int s, int... numbers) {
        due.is(told, x.load(s), numbers.length);
        for (int i = 0; i < numbers.length; i++) {
            due.is(told + ", number " + i, x.reads(0, i), numbers[i]);
        }
    }

    private static void copy() {
        MothTongue x = new MothTongue();
        Scenes.sheet(x, 0, 16, 1, 2, 3, 4);
        Scenes.sheet(x, 3, 16, 9, 9, 9, 9, 9);
        due.is("copy(0, 1, 3, 2, 2)", x.copy(0, 1, 3, 2, 2), 2);
        isSheet("to", x, 3, 9, 9, 2, 3, 9);
        isSheet("from", x, 0, 1, 2, 3, 4);
        due.is("copy(0, 0, 0, 1, 3)", x.copy(0, 0, 0, 1, 3), 3);
        isSheet("onto itself, on", x, 0, 1, 1, 2, 3);
        due.is("copy(0, 1, 0, 0, 3)", x.copy(0, 1, 0, 0, 3), 3);
        isSheet("onto itself, back", x, 0, 1, 2, 3, 3);
        due.is("copy(0, 4, 3, 5, 0)", x.copy(0, 4, 3, 5, 0), 0);
        due.is("copy(0, 0, 3, 1, 4)", x.copy(0, 0, 3, 1, 4), 4);
        isSheet("all", x, 3, 9, 1, 2, 3, 3);
    }

    private static void copyRefuses() {
        for (int s : STRANGE) {
            due.refuses("from " + s, Due.BEYOND, Scenes::busy, y -> y.copy(s, 0, 3, 0, 0));
            due.refuses("to " + s, Due.BEYOND, Scenes::busy, y -> y.copy(3, 0, s, 0, 0));
        }
        due.refuses("from a missing one", Due.MISSING, Scenes::busy, y -> y.copy(3, 0, 0, 0, -1));
        due.refuses("to a missing one", Due.MISSING, Scenes::busy, y -> y.copy(0, 0, 3, 0, -1));
        due.refuses("both missing", Due.MISSING, Scenes::busy, y -> y.copy(3, 0, 3, 0, 0));
        due.refuses("8 to 16 bits", Due.KIND, Scenes::busy, y -> y.copy(0, 0, 2, 0, 0));
        due.refuses("16 to 8 bits", Due.KIND, Scenes::busy, y -> y.copy(2, -1, 1, -1, -1));
        // Sheet 0 has three numbers, sheet 1 has two.
        int[][] wrong = {{-1, 0, 1}, {0, -1, 1}, {0, 0, -1}, {3, 0, 1}, {4, 0, 0}, {2, 0, 2}, {0, 2, 1}, {0, 3, 0}, {0, 1, 2},
            {0, 0, 3}, {Integer.MAX_VALUE, 0, 1}, {1, Integer.MAX_VALUE, 1}, {1, 1, Integer.MAX_VALUE},
            {Integer.MAX_VALUE, Integer.MAX_VALUE, Integer.MAX_VALUE}, {Integer.MIN_VALUE, 0, Integer.MIN_VALUE},
            {0, 0, Integer.MIN_VALUE}, {-1, 0, 0}, {0, -1, 0}};
        for (int[] w : wrong) {
            due.refuses("copy" + Arrays.toString(w), Due.BEYOND, Scenes::busy, y -> y.copy(0, w[0], 1, w[1], w[2]));
        }
    }

    private static int loaded(MothTongue x, int bits, int... numbers) {
        for (int page = 0; page < 2; page++) {
            Scenes.page(x, page, 5, 5, 5, 5, 5, 5, 5, 5);
        }
        Scenes.sheet(x, 1, bits, numbers);
        return x.load(1);
    }

    private static void load() {
        MothTongue x = new MothTongue();
        due.is("three numbers", loaded(x, 8, 0, 9, 1), 3);
        int[] words = {0, 9, 1, 5, 5, 5, 5, 5};
        for (int place = 0; place < 8; place++) {
            due.is("reads(0, " + place + ")", x.reads(0, place), words[place]);
            due.is("reads(1, " + place + ")", x.reads(1, place), 5);
        }
        due.is("10 is no word", loaded(x, 8, 1, 2, 10, 3), 2);
        due.is("reads(0, 1)", x.reads(0, 1), 2);
        due.is("reads(0, 2)", x.reads(0, 2), 5);
        due.is("reads(0, 3)", x.reads(0, 3), 5);
        due.is("-1 is no word", loaded(x, 8, -1, 2), 0);
        due.is("page(0, 0)", x.page(0, 0), 180);
        due.is("eight", loaded(x, 32, 1, 1, 1, 1, 1, 1, 1, 2), 8);
        due.is("reads(0, 7)", x.reads(0, 7), 2);
        due.is("a ninth has no place", loaded(x, 16, 1, 1, 1, 1, 1, 1, 1, 2, 3), 8);
        due.is("none", loaded(x, 8), 0);
        due.is("0 and 9 are words", loaded(x, 32, 9, 0, 9, 0, 9, 0, 9, 0), 8);
        due.is("reads(0, 6)", x.reads(0, 6), 9);
        due.is("reads(0, 7)", x.reads(0, 7), 0);
        due.is("10 at once", loaded(x, 32, 10, 1), 0);
        due.is("reads(0, 0)", x.reads(0, 0), 5);
        due.is("the eighth is no word", loaded(x, 32, 1, 1, 1, 1, 1, 1, 1, 10), 7);
        due.is("reads(0, 7)", x.reads(0, 7), 5);
        due.is("-1 at the eighth", loaded(x, 16, 1, 1, 1, 1, 1, 1, 1, 65535), 7);
        due.is("the ninth is no word, but isn't asked", loaded(x, 32, 1, 1, 1, 1, 1, 1, 1, 1, 10), 8);
        due.is("265 of 8 bits is 9", loaded(x, 8, 265), 1);
        due.is("reads(0, 0)", x.reads(0, 0), 9);
        due.is("265 of 16 bits is no word", loaded(x, 16, 265), 0);
        due.is("forty zeros", loaded(x, 8, new int[40]), 8);
        due.is("page(0, 1)", x.page(0, 1), 8);
        due.is("page(1, 0)", x.page(1, 0), 180);
        for (int s : STRANGE) {
            due.refuses("load(" + s + ")", Due.BEYOND, Scenes::busy, y -> y.load(s));
        }
        due.refuses("load(3)", Due.MISSING, Scenes::busy, y -> y.load(3));
    }

    private static Due.Scene told(int... numbers) {
        return x -> {
            for (int page = 0; page < 6; page++) {
                x.word(page, page, page + 1);
            }
            Scenes.sheet(x, 2, 8, numbers);
        };
    }

    private static void judge() {
        due.looks("all six", 0, told(1, 4, 9, 16, 25, 36), x -> x.judge(2));
        due.looks("the first three", 0, told(1, 4, 9), x -> x.judge(2));
        due.looks("none", 0, told(), x -> x.judge(2));
        due.looks("the first isn't so", 1, told(0, 0, 9), x -> x.judge(2));
        due.looks("the third isn't so", 3, told(1, 4, 8, 15), x -> x.judge(2));
        due.looks("the last isn't so", 6, told(1, 4, 9, 16, 25, 35), x -> x.judge(2));
        due.looks("there is no seventh page", 7, told(1, 4, 9, 16, 25, 36, 0), x -> x.judge(2));
        for (int s : STRANGE) {
            due.refuses("judge(" + s + ")", Due.BEYOND, Scenes::busy, y -> y.judge(s));
        }
        due.refuses("judge(3)", Due.MISSING, Scenes::busy, y -> y.judge(3));
    }

    /** A full sheet onto itself by one number, both ways: as they all were. */
    private static void copyOfForty() {
        for (int bits : new int[] {8, 16, 32}) {
            int[] numbers = new int[40];
            for (int i = 0; i < 40; i++) {
                numbers[i] = i % 10;
            }
            MothTongue x = new MothTongue();
            Scenes.sheet(x, 0, bits, numbers);
            due.is("on by one", x.copy(0, 0, 0, 1, 39), 39);
            isForty("on by one", x, bits, i -> Math.max(0, i - 1) % 10);
            due.is("back by one", x.copy(0, 1, 0, 0, 39), 39);
            isForty("back by one", x, bits, i -> Math.min(i, 38) % 10);
            Scenes.sheet(x, 1, bits, new int[40]);
            due.is("all to another one", x.copy(0, 0, 1, 0, 40), 40);
            due.is("all back", x.copy(1, 0, 0, 0, 40), 40);
            isForty("all back", x, bits, i -> Math.min(i, 38) % 10);
        }
    }

    /** Number by number, by way of a sheet of one. */
    private static void isForty(String told, MothTongue x, int bits, java.util.function.IntUnaryOperator want) {
        for (int i = 0; i < 40; i++) {
            x.sheet(3, bits, 1);
            due.is("copy of number " + i, x.copy(0, i, 3, 0, 1), 1);
            x.load(3);
            due.is(told + " of " + bits + " bits, number " + i, x.reads(0, 0), want.applyAsInt(i));
        }
    }
}
