import java.util.Arrays;

/**
 * Findings are asked in the order of the document's words: where several could be told, the first of
 * them is, it alone is counted, and nothing changes. The rows of a promise go from its first finding
 * to its last; STATE, which lies behind 512 calls, is in NightsTest.
 */
final class OrderTest {
    private static final Due due = new Due();

    public static void main(String[] args) {
        moth();
        awaited();
        swapFor();
        fitsAndKinds();
        feed();
        as();
        sheet();
        write();
        copy();
        loadAndJudge();
        undo();
        due.end();
    }

    private static void found(int finding, Due.Scene scene, String name, int... numbers) {
        due.refuses(name + Arrays.toString(numbers), finding, scene, x -> Calls.on(x, name, numbers));
    }

    /** BEYOND. FULL. */
    private static void moth() {
        found(Due.BEYOND, Scenes::crowded, "moth", -1, 0);
        found(Due.BEYOND, Scenes::crowded, "moth", 7, 0);
        found(Due.BEYOND, Scenes::crowded, "moth", 0, -1);
        found(Due.BEYOND, Scenes::crowded, "moth", 0, 6);
        found(Due.FULL, Scenes::crowded, "moth", 0, 0);
        found(Due.FULL, Scenes::crowded, "moth", 6, 5);
    }

    /** BEYOND. NONE. */
    private static void awaited() {
        Due.Scene still = x -> {
            for (int page = 0; page < 6; page++) {
                Scenes.page(x, page, 1 + page);
            }
        };
        found(Due.BEYOND, still, "bare", -1);
        found(Due.BEYOND, still, "bare", 6);
        found(Due.NONE, still, "bare", 0);
        found(Due.NONE, still, "bare", 5);
        found(Due.BEYOND, still, "when", 6, 9);
        found(Due.BEYOND, still, "when", 0, 325);
        found(Due.BEYOND, still, "when", 0, -1);
        found(Due.NONE, still, "when", 0, 324);
        found(Due.NONE, still, "when", 0, 0);
        found(Due.BEYOND, still, "alike", 0, 6);
        found(Due.BEYOND, still, "alike", -1, 0);
        found(Due.BEYOND, still, "alike", 3, 3);
        found(Due.NONE, still, "alike", 0, 5);
    }

    /** BEYOND. NONE: fewer than two. */
    private static void swapFor() {
        for (int moths = 0; moths < 2; moths++) {
            int m = moths;
            Due.Scene few = x -> {
                for (int i = 0; i < m; i++) {
                    x.moth(1, 0);
                }
            };
            found(Due.BEYOND, few, "swapFor", -1, 0);
            found(Due.BEYOND, few, "swapFor", 6, 0);
            found(Due.BEYOND, few, "swapFor", 0, -1);
            found(Due.BEYOND, few, "swapFor", 0, 41);
            found(Due.NONE, few, "swapFor", 0, 0);
            found(Due.NONE, few, "swapFor", 5, 40);
        }
        due.looks("two moths are enough", 1, x -> {
            x.moth(1, 0);
            x.moth(1, 0);
        }, x -> x.swapFor(0, 0));
    }

    /** BEYOND: no such sheet. MISSING. BEYOND: no such page, place, n; no such moth. */
    private static void fitsAndKinds() {
        found(Due.BEYOND, Scenes::busy, "fits", 4, 6, 8, 21);
        found(Due.BEYOND, Scenes::busy, "fits", -1, 0, 0, 0);
        found(Due.MISSING, Scenes::busy, "fits", 3, 6, 0, 0);
        found(Due.MISSING, Scenes::busy, "fits", 3, 0, 8, 0);
        found(Due.MISSING, Scenes::busy, "fits", 3, 0, 0, 21);
        found(Due.MISSING, Scenes::busy, "fits", 3, 0, 0, 0);
        found(Due.BEYOND, Scenes::busy, "fits", 0, 6, 0, 0);
        found(Due.BEYOND, Scenes::busy, "kinds", 4, 8);
        found(Due.BEYOND, Scenes::busy, "kinds", -1, 0);
        found(Due.MISSING, Scenes::busy, "kinds", 3, 8);
        found(Due.MISSING, Scenes::busy, "kinds", 3, 0);
        found(Due.BEYOND, Scenes::busy, "kinds", 0, 3);
    }

    /** BEYOND: n. FULL. */
    private static void feed() {
        Due.Scene full = x -> Scenes.tape(x, "x".repeat(120));
        found(Due.BEYOND, full, "feed", 0, 0);
        found(Due.BEYOND, full, "feed", 0, 5);
        found(Due.BEYOND, full, "feed", 0, Integer.MAX_VALUE);
        for (int left = 0; left < 4; left++) {
            int l = left;
            Due.Scene nearly = x -> Scenes.tape(x, "x".repeat(120 - l));
            for (int n = 1; n <= 4; n++) {
                if (n > left) {
                    found(Due.FULL, nearly, "feed", 0, n);
                } else {
                    due.is(n + " bytes where " + left + " are left", Due.made(nearly).feed(0, n), 120 - left + n);
                }
            }
        }
    }

    /** BEYOND. MISSING: it holds nothing. KIND. */
    private static void as() {
        // Spot 9 holds an old moth, spot 0 nothing.
        found(Due.BEYOND, Scenes::busy, "as", 10, 7);
        found(Due.BEYOND, Scenes::busy, "as", 0, 7);
        found(Due.BEYOND, Scenes::busy, "as", 9, 7);
        found(Due.BEYOND, Scenes::busy, "as", 9, -1);
        found(Due.MISSING, Scenes::busy, "as", 0, 0);
        found(Due.MISSING, Scenes::busy, "as", 0, 1);
        found(Due.KIND, Scenes::busy, "as", 9, 1);
        due.looks("an old moth as an old one", 2, Scenes::busy, x -> x.as(9, 5));
    }

    /** BEYOND: no such sheet, other bits. SIZE: n is below 0 (also with bits 0). BEYOND: n is above 40. */
    private static void sheet() {
        found(Due.BEYOND, Scenes::busy, "sheet", 4, 8, -1);
        found(Due.BEYOND, Scenes::busy, "sheet", -1, 0, -1);
        found(Due.BEYOND, Scenes::busy, "sheet", 0, 9, -1);
        found(Due.SIZE, Scenes::busy, "sheet", 0, 0, -1);
        found(Due.SIZE, Scenes::busy, "sheet", 3, 0, -1);
        found(Due.SIZE, Scenes::busy, "sheet", 0, 8, -1);
        found(Due.BEYOND, Scenes::busy, "sheet", 0, 8, 41);
    }

    /** BEYOND: no such sheet. MISSING. BEYOND: no such number. */
    private static void write() {
        found(Due.BEYOND, Scenes::busy, "write", 4, -1, 0);
        found(Due.BEYOND, Scenes::busy, "write", -1, 0, 0);
        found(Due.MISSING, Scenes::busy, "write", 3, -1, 0);
        found(Due.MISSING, Scenes::busy, "write", 3, 0, 0);
        found(Due.BEYOND, Scenes::busy, "write", 0, 3, 0);
    }

    /** BEYOND: no such sheet (either). MISSING: one is. KIND. BEYOND: not so many, or below 0. */
    private static void copy() {
        found(Due.BEYOND, Scenes::busy, "copy", 4, -1, 3, -1, -1);
        found(Due.BEYOND, Scenes::busy, "copy", 3, -1, 4, -1, -1);
        found(Due.BEYOND, Scenes::busy, "copy", -1, 0, 0, 0, 0);
        found(Due.BEYOND, Scenes::busy, "copy", 0, 0, -1, 0, 0);
        // Sheet 3 is missing; 0 and 1 are of 8 bits, 2 is of 16.
        found(Due.MISSING, Scenes::busy, "copy", 3, -1, 0, -1, -1);
        found(Due.MISSING, Scenes::busy, "copy", 0, -1, 3, -1, -1);
        found(Due.MISSING, Scenes::busy, "copy", 3, 0, 3, 0, 0);
        found(Due.KIND, Scenes::busy, "copy", 0, -1, 2, -1, -1);
        found(Due.KIND, Scenes::busy, "copy", 2, 9, 0, 9, 9);
        found(Due.KIND, Scenes::busy, "copy", 0, 0, 2, 0, 0);
        found(Due.BEYOND, Scenes::busy, "copy", 0, -1, 1, 0, 0);
        found(Due.BEYOND, Scenes::busy, "copy", 0, 0, 1, 0, 3);
    }

    /** BEYOND: no such sheet. MISSING. */
    private static void loadAndJudge() {
        for (String name : new String[] {"load", "judge"}) {
            found(Due.BEYOND, Scenes::busy, name, -1);
            found(Due.BEYOND, Scenes::busy, name, 4);
            found(Due.MISSING, Scenes::busy, name, 3);
            found(Due.MISSING, x -> {
                Scenes.busy(x);
                x.sheet(0, 0, 0);
            }, name, 0);
        }
    }

    /** NONE: nothing is kept. */
    private static void undo() {
        found(Due.NONE, Scenes::nothing, "undo");
        found(Due.NONE, x -> {
            Scenes.busy(x);
            x.tear();
        }, "undo");
    }
}
