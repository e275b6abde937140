import java.util.Arrays;

/** Promises 6 to 9. */
final class MothsTest {
    private static final int MOTH = 0;
    private static final int LARVA = 1;
    private static final int SILVER = 2;
    private static final int SCHOLAR = 3;
    private static final int BISHOP = 4;
    private static final int OLD = 5;
    private static final int GRUB = 6;

    private static final Due due = new Due();

    public static void main(String[] args) {
        moth();
        of();
        bites();
        change();
        leaves();
        fedAtMost();
        due.end();
    }

    private static void moth() {
        MothTongue x = new MothTongue();
        for (int i = 0; i < 8; i++) {
            due.is("moth " + i, x.moth(i % 7, i % 6), i);
        }
        for (int i = 0; i < 8; i++) {
            due.is("KIND", x.of(i, 0), i % 7);
            due.is("PAGE", x.of(i, 1), i % 6);
            due.is("TASTE", x.of(i, 2), 1);
            due.is("FED", x.of(i, 3), 0);
        }
        due.refuses("a 9th moth", Due.FULL, Scenes::crowded, y -> y.moth(0, 0));
        due.refuses("a 9th moth of no kind", Due.BEYOND, Scenes::crowded, y -> y.moth(7, 0));
        due.refuses("a 9th moth on no page", Due.BEYOND, Scenes::crowded, y -> y.moth(0, 6));
        int[][] wrong = {{-1, 0}, {7, 0}, {0, -1}, {0, 6}, {Integer.MIN_VALUE, 0}, {0, Integer.MAX_VALUE}};
        for (int[] w : wrong) {
            due.refuses("moth" + Arrays.toString(w), Due.BEYOND, Scenes::busy, y -> y.moth(w[0], w[1]));
        }
    }

    private static void of() {
        Due.Scene scene = x -> {
            Scenes.page(x, 4, 0, 0, 7);
            Scenes.moth(x, LARVA, 4, 9, 9999);
            Scenes.moth(x, GRUB, 3, 1, 0);
        };
        int[] first = {LARVA, 4, 9, 9999, 2};
        int[] second = {GRUB, 3, 1, 0, -1};
        for (int what = 0; what < 5; what++) {
            int w = what;
            due.looks("of(0, " + w + ")", first[w], scene, x -> x.of(0, w));
            due.looks("of(1, " + w + ")", second[w], scene, x -> x.of(1, w));
        }
        int[][] wrong = {{-1, 0}, {3, 0}, {8, 0}, {0, -1}, {0, 5}, {Integer.MAX_VALUE, 0}};
        for (int[] w : wrong) {
            due.refuses("of" + Arrays.toString(w), Due.BEYOND, Scenes::busy, y -> y.of(w[0], w[1]));
        }
    }

    private static void bites() {
        bites(MOTH, 4, 0, 2, 0, 3, 4, 4);
        bites(MOTH, 9, 0, -1, 1, 2, 3, 4, 5, 6, 7, 8);
        bites(MOTH, 9, 0, 7, 1, 2, 3, 4, 5, 6, 7, 9);
        bites(MOTH, 1, 0, -1);
        bites(LARVA, 9, 3, 3, 0, 0, 0, 5, 9);
        bites(LARVA, 9, 3, 0, 1);
        bites(LARVA, 1, 0, -1);
        bites(GRUB, 9, 3, 4, 0, 0, 0, 5, 9);
        bites(GRUB, 9, 3, 7, 1, 1, 1, 1, 1, 1, 1, 1);
        bites(GRUB, 9, 3, 0, 1);
        bites(GRUB, 1, 0, -1);
        bites(SILVER, 2, 0, 3, 0, 3, 5, 8, 2);
        bites(SILVER, 8, 0, 3, 0, 3, 5, 2, 8);
        bites(SILVER, 7, 0, 1, 0, 3, 5, 8, 2);
        bites(SILVER, 2, 0, -1, 1, 3, 5, 7, 9);
        bites(SILVER, 1, 0, -1, 2, 4, 0, 6);
        bites(SCHOLAR, 4, 0, 1, 0, 4, 8);
        bites(SCHOLAR, 4, 0, 1, 3, 6, 8);
        bites(SCHOLAR, 4, 0, -1, 2, 4, 8);
        bites(SCHOLAR, 5, 0, 2, 0, 8, 9);
        bites(SCHOLAR, 5, 0, -1, 0, 8, 4);
        bites(BISHOP, 4, 0, 1, 3, 6, 4);
        bites(BISHOP, 4, 0, 2, 2, 6, 4);
        bites(BISHOP, 4, 0, -1, 2, 6, 8);
        bites(BISHOP, 9, 0, -1, 8, 8, 8);
        bites(BISHOP, 9, 0, 4, 1, 0, 0, 7, 9);
        bites(OLD, 9, 0, 0, 1, 2);
        bites(OLD, 9, 1, 1, 1, 2);
        bites(OLD, 9, 2, -1, 1, 2);
        bites(OLD, 9, 9, 1, 1, 2);
        bites(OLD, 9, 9999, 7, 0, 0, 0, 0, 0, 0, 0, 1);
        bites(OLD, 9, 9992, 0, 1);
    }

    private static void bites(int kind, int taste, int fed, int place, int... words) {
        MothTongue x = new MothTongue();
        // Other pages don't matter.
        Scenes.page(x, 0, 9, 8, 7, 6, 5, 4, 3, 2);
        Scenes.page(x, 2, 9, 8, 7, 6, 5, 4, 3, 2);
        Scenes.page(x, 1, words);
        Scenes.moth(x, kind, 1, taste, fed);
        String told = "kind " + kind + ", taste " + taste + ", fed " + fed + " on " + Arrays.toString(words);
        due.is(told, x.of(0, 4), place);
        due.is("now(4) with " + told, x.now(4), place < 0 ? 1 : 0);
        int was = place < 0 ? 0 : x.reads(1, place);
        int left = place < 0 ? 0 : x.leaves(0, was, 0);
        int gain = place < 0 ? 0 : x.leaves(0, was, 1);
        x.go(1);
        for (int i = 0; i < 8; i++) {
            int word = i < words.length ? words[i] : 0;
            due.is("behind a night place " + i + " with " + told, x.reads(1, i), i == place ? left : word);
        }
        due.is("FED behind a night with " + told, x.of(0, 3), Math.min(fed + gain, 9999));
    }

    private static void change() {
        MothTongue x = new MothTongue();
        x.moth(0, 0);
        x.moth(1, 5);
        due.is("change(1, 0, 6)", x.change(1, 0, 6), 1);
        due.is("change(1, 0, 0)", x.change(1, 0, 0), 6);
        due.is("change(1, 1, 0)", x.change(1, 1, 0), 5);
        due.is("change(1, 1, 5)", x.change(1, 1, 5), 0);
        due.is("change(1, 2, 9)", x.change(1, 2, 9), 1);
        due.is("change(1, 2, 1)", x.change(1, 2, 1), 9);
        due.is("change(1, 3, 9999)", x.change(1, 3, 9999), 0);
        due.is("change(1, 3, 4)", x.change(1, 3, 4), 9999);
        int[] other = {0, 0, 1, 0};
        int[] changed = {0, 5, 1, 4};
        for (int what = 0; what < 4; what++) {
            due.is("of(0, " + what + ")", x.of(0, what), other[what]);
            due.is("of(1, " + what + ")", x.of(1, what), changed[what]);
        }
        int[][] wrong = {{-1, 0, 0}, {3, 0, 0}, {0, -1, 0}, {0, 4, 0}, {0, 5, 0}, {0, 0, -1}, {0, 0, 7}, {0, 1, -1},
            {0, 1, 6}, {0, 2, 0}, {0, 2, 10}, {0, 3, -1}, {0, 3, 10000}, {0, Integer.MAX_VALUE, 0},
            {0, Integer.MIN_VALUE, 0}, {Integer.MIN_VALUE, 0, 0}, {0, 3, Integer.MAX_VALUE}};
        for (int[] w : wrong) {
            due.refuses("change" + Arrays.toString(w), Due.BEYOND, Scenes::busy, y -> y.change(w[0], w[1], w[2]));
        }
    }

    private static void leaves() {
        int[][] left = {
            {0, 0, 0, 0, 0, 0, 0, 0, 0},
            {0, 1, 2, 3, 4, 5, 6, 7, 8},
            {9, 8, 7, 6, 5, 4, 3, 2, 1},
            {9, 9, 8, 7, 6, 5, 4, 3, 2},
            {4, 4, 4, 3, 3, 2, 2, 1, 1},
            {0, 0, 0, 0, 0, 0, 0, 0, 0},
            {0, 0, 1, 2, 3, 4, 5, 6, 7}};
        int[][] gained = {
            {1, 2, 3, 4, 5, 6, 7, 8, 9},
            {1, 1, 1, 1, 1, 1, 1, 1, 1},
            {0, 1, 1, 2, 2, 3, 3, 4, 4},
            {1, 2, 2, 3, 3, 4, 4, 5, 5},
            {1, 2, 2, 3, 3, 4, 4, 5, 5},
            {2, 3, 4, 5, 6, 7, 8, 9, 10},
            {2, 2, 2, 2, 2, 2, 2, 2, 2}};
        for (int kind = 0; kind < 7; kind++) {
            MothTongue x = new MothTongue();
            Scenes.moth(x, kind, 3, 4, 5);
            for (int word = 1; word <= 9; word++) {
                due.is("kind " + kind + " LEAVES of " + word, x.leaves(0, word, 0), left[kind][word - 1]);
                due.is("kind " + kind + " GAINS by " + word, x.leaves(0, word, 1), gained[kind][word - 1]);
            }
        }
        due.looks("leaves(1, 8, 0)", 2, Scenes::busy, x -> x.leaves(1, 8, 0));
        int[][] wrong = {{-1, 1, 0}, {3, 1, 0}, {0, 0, 0}, {0, 10, 0}, {0, -1, 0}, {0, 1, -1}, {0, 1, 2},
            {Integer.MAX_VALUE, 1, 0}, {0, Integer.MIN_VALUE, 0}};
        for (int[] w : wrong) {
            due.refuses("leaves" + Arrays.toString(w), Due.BEYOND, Scenes::busy, y -> y.leaves(w[0], w[1], w[2]));
        }
    }

    /** FED is 9999 at most, whatever is gained; by gaining just so much it becomes that, too. */
    private static void fedAtMost() {
        for (int kind = 0; kind < 7; kind++) {
            for (int word = 1; word <= 9; word++) {
                for (int fed = 9988; fed <= 9999; fed++) {
                    MothTongue x = new MothTongue();
                    Scenes.moth(x, kind, 2, word, fed);
                    // An old moth bites where it has come to.
                    int place = kind == OLD ? fed % 8 : 6;
                    x.word(2, place, word);
                    int gained = x.leaves(0, word, 1);
                    int left = x.leaves(0, word, 0);
                    String told = "kind " + kind + " with FED " + fed + " by a " + word;
                    due.is(told + " ahead", x.fed(0, 1), Math.min(fed + gained, 9999));
                    x.go(1);
                    due.is(told, x.of(0, 3), Math.min(fed + gained, 9999));
                    due.is("what is left by " + told, x.reads(2, place), left);
                }
            }
        }
        MothTongue x = new MothTongue();
        Scenes.page(x, 0, 9, 9, 9, 9, 9, 9, 9, 9);
        Scenes.moth(x, LARVA, 0, 1, 9950);
        due.is("one below the most", x.fed(0, 48), 9998);
        due.is("at the most", x.fed(0, 49), 9999);
        due.is("stays at the most", x.fed(0, 50), 9999);
        due.is("to the end", x.fed(0, 100), 9999);
    }
}
