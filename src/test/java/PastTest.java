import java.util.Arrays;

/** Promises 24 and 25. */
final class PastTest {
    private static final Due due = new Due();

    public static void main(String[] args) {
        fits();
        fitsByBits();
        fitsRefuses();
        kinds();
        kindsOverForty();
        kindsRefuses();
        due.end();
    }

    /** A larva on page 2, and what sheet 3 tells. */
    private static Due.Scene larva(int bits, int... told) {
        return x -> {
            Scenes.page(x, 2, 7, 6, 0, 0, 0, 0, 0, 5);
            Scenes.page(x, 1, 3);
            x.moth(1, 2);
            Scenes.sheet(x, 3, bits, told);
        };
    }

    private static void fits() {
        due.looks("4 came of 5", 1 << 5, larva(8, 4), x -> x.fits(3, 2, 0, 1));
        due.looks("9 came of none", 0, larva(8, 9), x -> x.fits(3, 2, 0, 1));
        due.looks("a hole came of 0 or 1", 3, larva(8, 0), x -> x.fits(3, 2, 0, 1));
        due.looks("a hole came of 0 to 3", 15, larva(8, 0, -1, -1), x -> x.fits(3, 2, 0, 3));
        due.looks("a hole, and 6 is left", 1 << 3, larva(8, 0, 6), x -> x.fits(3, 2, 0, 3));
        due.looks("a hole, and 3 is left", 1, larva(8, 0, 3), x -> x.fits(3, 2, 0, 3));
        due.looks("eight are asked", 1 << 7, larva(8, 6, 6, 0, 0, 0, 0, 0, 5), x -> x.fits(3, 2, 0, 1));
        due.looks("the eighth is asked", 0, larva(8, 6, 6, 0, 0, 0, 0, 0, 4), x -> x.fits(3, 2, 0, 1));
        due.looks("a ninth isn't asked", 1 << 7, larva(8, 6, 6, 0, 0, 0, 0, 0, 5, 77), x -> x.fits(3, 2, 0, 1));
        due.looks("the last place", 1 << 2, larva(8, 6, -1, -1, -1, -1, -1, -1, 2), x -> x.fits(3, 2, 7, 1));
        due.looks("the last place, unasked", 1023, larva(8, 6), x -> x.fits(3, 2, 7, 1));
        due.looks("no nights", 1 << 4, larva(8, 4), x -> x.fits(3, 2, 0, 0));
        due.looks("19 nights", 511, larva(8, 0, 0, 0, 0, 0, 0, 0, 0), x -> x.fits(3, 2, 0, 19));
        due.looks("20 nights", 1023, larva(8, 0, 0, 0, 0, 0, 0, 0, 0), x -> x.fits(3, 2, 0, 20));
        due.looks("a page without moths", 1 << 3, larva(8, 3), x -> x.fits(3, 1, 0, 5));
        due.looks("an empty sheet", 1023, larva(8), x -> x.fits(3, 2, 0, 5));
        due.looks("any", 1023, larva(8, -1), x -> x.fits(3, 2, 0, 5));
        int[] forty = new int[40];
        Arrays.fill(forty, 77);
        System.arraycopy(new int[] {6, 6, 0, 0, 0, 0, 0, 5}, 0, forty, 0, 8);
        due.looks("of forty the first eight", 1 << 7, larva(8, forty), x -> x.fits(3, 2, 0, 1));
        forty[7] = 77;
        due.looks("the eighth of forty isn't so", 0, larva(8, forty), x -> x.fits(3, 2, 0, 1));
        due.looks("0 alone", 1, larva(8, 0), x -> x.fits(3, 2, 0, 0));
        due.looks("9 alone", 1 << 9, larva(8, 9), x -> x.fits(3, 2, 0, 0));
        due.looks("10 is no word", 0, larva(8, 10), x -> x.fits(3, 2, 0, 0));
        // No larva takes the last page off.
        due.looks("the last page and place", 1 << 6, larva(8, 0, 0, 0, 0, 0, 0, 0, 6), x -> x.fits(3, 5, 7, 20));
    }

    private static void fitsByBits() {
        due.looks("255 of 8 bits is -1", 1023, larva(8, 255), x -> x.fits(3, 2, 0, 1));
        due.looks("260 of 8 bits is 4", 1 << 5, larva(8, 260), x -> x.fits(3, 2, 0, 1));
        due.looks("255 of 16 bits", 0, larva(16, 255), x -> x.fits(3, 2, 0, 1));
        due.looks("65535 of 16 bits is -1", 1023, larva(16, 65535), x -> x.fits(3, 2, 0, 1));
        due.looks("65535 of 32 bits", 0, larva(32, 65535), x -> x.fits(3, 2, 0, 1));
        due.looks("-1 of 32 bits", 1023, larva(32, -1), x -> x.fits(3, 2, 0, 1));
        due.looks("-2 is no word", 0, larva(32, -2), x -> x.fits(3, 2, 0, 1));
    }

    private static void fitsRefuses() {
        for (int s : new int[] {-1, 4, Integer.MIN_VALUE, Integer.MAX_VALUE}) {
            due.refuses("fits(" + s + ", 0, 0, 0)", Due.BEYOND, Scenes::busy, x -> x.fits(s, 0, 0, 0));
            due.refuses("fits(" + s + ", 6, 8, 21)", Due.BEYOND, Scenes::busy, x -> x.fits(s, 6, 8, 21));
        }
        int[][] wrong = {{-1, 0, 0}, {6, 0, 0}, {0, -1, 0}, {0, 8, 0}, {0, 0, -1}, {0, 0, 21}, {Integer.MAX_VALUE, 0, 0},
            {0, Integer.MIN_VALUE, 0}, {0, 0, Integer.MAX_VALUE}};
        for (int[] w : wrong) {
            due.refuses("fits 0, " + Arrays.toString(w), Due.BEYOND, Scenes::busy, x -> x.fits(0, w[0], w[1], w[2]));
            due.refuses("fits 3, " + Arrays.toString(w), Due.MISSING, Scenes::busy, x -> x.fits(3, w[0], w[1], w[2]));
        }
        due.refuses("fits(3, 0, 0, 0)", Due.MISSING, Scenes::busy, x -> x.fits(3, 0, 0, 0));
    }

    /** A moth of taste 1 before a page of 1 alone, and what sheet 0 tells. */
    private static Due.Scene lone(int bits, int... told) {
        return x -> {
            Scenes.page(x, 3, 1);
            Scenes.moth(x, 2, 3, 1, 0);
            Scenes.sheet(x, 0, bits, told);
        };
    }

    private static void kinds() {
        due.looks("by the first bite 1", 1 + 2 + 8 + 16, lone(8, 0, 1), x -> x.kinds(0, 0));
        due.looks("by the first bite 2", 32 + 64, lone(8, 0, 2), x -> x.kinds(0, 0));
        due.looks("by the first bite 2, any now", 32 + 64, lone(8, -1, 2), x -> x.kinds(0, 0));
        due.looks("by the first bite 0", 4, lone(8, 0, 0), x -> x.kinds(0, 0));
        // Then a scholar has left 9 and bites that, a bishop has left 4 and bites nothing.
        due.looks("nothing more", 1 + 2 + 16, lone(8, 0, 1, 1), x -> x.kinds(0, 0));
        due.looks("5 more", 8, lone(8, 0, 1, 6), x -> x.kinds(0, 0));
        due.looks("any", 127, lone(8, -1, -1, -1), x -> x.kinds(0, 0));
        due.looks("nothing asked", 127, lone(16), x -> x.kinds(0, 0));
        due.looks("FED isn't so now", 0, lone(8, 1), x -> x.kinds(0, 0));
        due.looks("FED now alone", 127, lone(8, 0), x -> x.kinds(0, 0));
        due.looks("255 of 8 bits is -1: any", 127, lone(8, 255), x -> x.kinds(0, 0));
        due.looks("65535 of 16 bits is -1: any", 127, lone(16, 65535), x -> x.kinds(0, 0));
        due.looks("255 of 16 bits", 0, lone(16, 255), x -> x.kinds(0, 0));
        due.looks("65535 of 32 bits", 0, lone(32, 65535), x -> x.kinds(0, 0));
        due.looks("256 of 8 bits is 0", 127, lone(8, 256), x -> x.kinds(0, 0));
        due.looks("-2 is never so", 0, lone(32, -2), x -> x.kinds(0, 0));
        due.looks("FED at the most", 127, x -> {
            Scenes.moth(x, 0, 0, 1, 9999);
            Scenes.sheet(x, 0, 16, 9999, 9999);
        }, x -> x.kinds(0, 0));
        due.looks("FED at the most, told by 8 bits", 0, x -> {
            Scenes.moth(x, 0, 0, 1, 9999);
            Scenes.sheet(x, 0, 8, 9999, 9999);
        }, x -> x.kinds(0, 0));
        due.looks("another moth eats first", 127, x -> {
            Scenes.page(x, 3, 1);
            Scenes.moth(x, 0, 3, 1, 0);
            Scenes.moth(x, 0, 3, 1, 0);
            Scenes.sheet(x, 0, 8, 0, 0);
        }, x -> x.kinds(0, 1));
    }

    private static void kindsOverForty() {
        int[] told = new int[40];
        Arrays.fill(told, -1);
        Due.Scene scene = x -> {
            Scenes.page(x, 0, 9, 9, 9, 9, 9, 9, 9, 9);
            Scenes.moth(x, 0, 0, 1, 0);
            Scenes.sheet(x, 2, 32, told);
        };
        told[39] = 39;
        due.looks("39 behind 39 nights", 2, scene, x -> x.kinds(2, 0));
        told[39] = 41;
        due.looks("41 behind 39 nights", 0, scene, x -> x.kinds(2, 0));
        for (int i = 0; i < 40; i++) {
            told[i] = i;
        }
        due.looks("one more each night", 2, scene, x -> x.kinds(2, 0));
        told[20] = 19;
        due.looks("not quite", 0, scene, x -> x.kinds(2, 0));
    }

    private static void kindsRefuses() {
        for (int s : new int[] {-1, 4, Integer.MIN_VALUE, Integer.MAX_VALUE}) {
            due.refuses("kinds(" + s + ", 0)", Due.BEYOND, Scenes::busy, x -> x.kinds(s, 0));
        }
        for (int moth : new int[] {-1, 3, 8, Integer.MIN_VALUE, Integer.MAX_VALUE}) {
            due.refuses("kinds(0, " + moth + ")", Due.BEYOND, Scenes::busy, x -> x.kinds(0, moth));
            due.refuses("kinds(3, " + moth + ")", Due.MISSING, Scenes::busy, x -> x.kinds(3, moth));
        }
        due.refuses("kinds(3, 0)", Due.MISSING, Scenes::busy, x -> x.kinds(3, 0));
    }
}
