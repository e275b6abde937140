import java.util.Arrays;

/** Promises 12 to 18. */
final class AheadTest {
    private static final Due due = new Due();

    public static void main(String[] args) {
        aheadSaysFed();
        aheadIsWhatComes();
        bare();
        when();
        settles();
        alike();
        due.end();
    }

    /** A larva takes page 0 off by one a night; a silver one turns page 1 to and fro. */
    private static void twoPages(MothTongue x) {
        Scenes.page(x, 0, 3, 2);
        Scenes.page(x, 1, 0, 3);
        Scenes.moth(x, 1, 0, 1, 0);
        Scenes.moth(x, 2, 1, 1, 0);
        x.image();
        Scenes.sheet(x, 0, 8, 1);
        x.hold(0, 1);
        x.seed(9);
    }

    /** A scholar and a bishop count by what they leave, and come to no end for long. */
    private static void counting(MothTongue x, int... words) {
        Scenes.page(x, 0, words);
        Scenes.moth(x, 3, 0, 1, 0);
        Scenes.moth(x, 4, 0, 2, 0);
    }

    /**
     * Found by search: nothing slower was. So no pages are known that are bare or settle only at the
     * 200th night; the program waits for all four in one loop, whose end is tested by when and alike.
     */
    private static void slow(MothTongue x) {
        Scenes.page(x, 4, 2, 5, 9, 9, 9, 9, 9, 4);
        Scenes.moth(x, 2, 4, 8, 4);
        Scenes.moth(x, 6, 4, 9, 1);
        Scenes.moth(x, 2, 4, 9, 2);
        Scenes.moth(x, 2, 4, 4, 3);
        Scenes.moth(x, 4, 4, 7, 6);
        Scenes.moth(x, 2, 4, 3, 5);
        Scenes.moth(x, 1, 4, 9, 7);
    }

    private static void aheadSaysFed() {
        int[] firstWord = {3, 2, 1, 0, 0, 0, 0};
        int[] secondWord = {2, 2, 2, 2, 1, 0, 0};
        for (int n = 0; n < firstWord.length; n++) {
            int nights = n;
            due.looks("ahead(0, 0, " + n + ")", firstWord[n], AheadTest::twoPages, x -> x.ahead(0, 0, nights));
            due.looks("ahead(0, 1, " + n + ")", secondWord[n], AheadTest::twoPages, x -> x.ahead(0, 1, nights));
            due.looks("says(0, " + n + ")", firstWord[n] + 2 * secondWord[n], AheadTest::twoPages, x -> x.says(0, nights));
            due.looks("fed(0, " + n + ")", Math.min(n, 5), AheadTest::twoPages, x -> x.fed(0, nights));
        }
        due.looks("ahead(1, 1, 99)", 7, AheadTest::twoPages, x -> x.ahead(1, 1, 99));
        due.looks("ahead(1, 1, 100)", 3, AheadTest::twoPages, x -> x.ahead(1, 1, 100));
        due.looks("ahead(5, 7, 100)", 0, AheadTest::twoPages, x -> x.ahead(5, 7, 100));
        due.looks("says(1, 99)", 14, AheadTest::twoPages, x -> x.says(1, 99));
        due.looks("says(1, 100)", 6, AheadTest::twoPages, x -> x.says(1, 100));
        due.looks("fed(1, 99)", 50 * 1 + 49 * 3, AheadTest::twoPages, x -> x.fed(1, 99));
        due.looks("fed(1, 100)", 50 * 1 + 50 * 3, AheadTest::twoPages, x -> x.fed(1, 100));
        int[][] aheadWrong = {{-1, 0, 0}, {6, 0, 0}, {0, -1, 0}, {0, 8, 0}, {0, 0, -1}, {0, 0, 101}, {0, 0, Integer.MAX_VALUE},
            {0, 0, Integer.MIN_VALUE}, {Integer.MAX_VALUE, 0, 0}, {0, Integer.MIN_VALUE, 0}};
        for (int[] w : aheadWrong) {
            due.refuses("ahead" + Arrays.toString(w), Due.BEYOND, Scenes::busy, y -> y.ahead(w[0], w[1], w[2]));
        }
        int[][] saysWrong = {{-1, 0}, {6, 0}, {0, -1}, {0, 101}, {0, Integer.MAX_VALUE}};
        for (int[] w : saysWrong) {
            due.refuses("says" + Arrays.toString(w), Due.BEYOND, Scenes::busy, y -> y.says(w[0], w[1]));
        }
        int[][] fedWrong = {{-1, 0}, {3, 0}, {0, -1}, {0, 101}, {0, Integer.MIN_VALUE}};
        for (int[] w : fedWrong) {
            due.refuses("fed" + Arrays.toString(w), Due.BEYOND, Scenes::busy, y -> y.fed(w[0], w[1]));
        }
    }

    private static void bare() {
        due.looks("bare(0)", 5, AheadTest::twoPages, x -> x.bare(0));
        due.looks("bare(5)", 0, AheadTest::twoPages, x -> x.bare(5));
        due.refuses("bare(1)", Due.NONE, AheadTest::twoPages, x -> x.bare(1));
        due.looks("bare of a full page", 72, x -> {
            Scenes.page(x, 3, 9, 9, 9, 9, 9, 9, 9, 9);
            x.moth(1, 3);
        }, x -> x.bare(3));
        due.looks("bare of a slow page", 150, AheadTest::slow, x -> x.bare(4));
        due.looks("bare tonight", 1, x -> {
            x.word(3, 7, 1);
            x.moth(1, 3);
        }, x -> x.bare(3));
        due.refuses("a page that nothing bites", Due.NONE, x -> x.word(3, 7, 1), x -> x.bare(3));
        due.refuses("all but one word are eaten", Due.NONE, x -> {
            Scenes.page(x, 3, 4, 4, 4, 4, 4, 4, 4, 5);
            Scenes.moth(x, 0, 3, 4, 0);
        }, x -> x.bare(3));
        for (int page : new int[] {-1, 6, Integer.MIN_VALUE, Integer.MAX_VALUE}) {
            due.refuses("bare(" + page + ")", Due.BEYOND, Scenes::busy, y -> y.bare(page));
        }
    }

    private static void when() {
        int[] says = {7, 6, 5, 4, 2, 0};
        for (int n = 0; n < says.length; n++) {
            int v = says[n];
            due.looks("when(0, " + v + ")", n, AheadTest::twoPages, x -> x.when(0, v));
        }
        due.looks("when(1, 14)", 1, AheadTest::twoPages, x -> x.when(1, 14));
        due.looks("when(1, 6)", 0, AheadTest::twoPages, x -> x.when(1, 6));
        due.refuses("when(0, 3)", Due.NONE, AheadTest::twoPages, x -> x.when(0, 3));
        due.refuses("when(0, 324)", Due.NONE, AheadTest::twoPages, x -> x.when(0, 324));
        due.looks("when at the last night", 200, x -> counting(x, 4, 2, 6, 2, 7), x -> x.when(0, 89));
        due.refuses("when a night too late", Due.NONE, x -> counting(x, 4, 2, 6, 2, 7), x -> x.when(0, 98));
        Due.Scene full = x -> {
            Scenes.page(x, 5, 9, 9, 9, 9, 9, 9, 9, 9);
            x.moth(1, 5);
        };
        due.looks("the most that can be said", 0, full, x -> x.when(5, 324));
        due.looks("one less", 1, full, x -> x.when(5, 323));
        due.looks("the least that is said before none", 71, full, x -> x.when(5, 8));
        due.looks("none", 72, full, x -> x.when(5, 0));
        due.looks("the fewest, as it comes again", 1, AheadTest::twoPages, x -> x.when(1, 14));
        int[][] wrong = {{-1, 0}, {6, 0}, {0, -1}, {0, 325}, {6, 325}, {0, Integer.MAX_VALUE}, {0, Integer.MIN_VALUE}};
        for (int[] w : wrong) {
            due.refuses("when" + Arrays.toString(w), Due.BEYOND, Scenes::busy, y -> y.when(w[0], w[1]));
        }
    }

    private static void settles() {
        due.looks("settles() without moths", 0, x -> Scenes.page(x, 0, 1, 2, 3), MothTongue::settles);
        due.looks("settles() with a larva", 5, x -> {
            Scenes.page(x, 0, 3, 2);
            x.moth(1, 0);
        }, MothTongue::settles);
        due.looks("settles() by the slowest page", 4, x -> {
            Scenes.page(x, 5, 4);
            Scenes.page(x, 0, 2);
            x.moth(1, 5);
            x.moth(1, 0);
        }, MothTongue::settles);
        due.looks("settles() though one bites for ever: 5 is left of 5", 0, x -> {
            Scenes.page(x, 2, 5);
            x.moth(2, 2);
        }, MothTongue::settles);
        due.looks("settles() though two turn a word to and back each night", 0, x -> {
            Scenes.page(x, 2, 3);
            x.moth(2, 2);
            x.moth(2, 2);
        }, MothTongue::settles);
        due.looks("settles() of a slow page", 150, AheadTest::slow, MothTongue::settles);
        due.looks("settles() though FED goes on", 0, x -> {
            Scenes.page(x, 2, 5);
            Scenes.moth(x, 2, 2, 1, 0);
            x.go(60);
        }, MothTongue::settles);
        due.looks("settles() where moths find nothing", 0, x -> {
            Scenes.page(x, 2, 5);
            Scenes.moth(x, 0, 2, 4, 0);
            Scenes.moth(x, 5, 2, 4, 1);
            Scenes.moth(x, 3, 2, 7, 0);
        }, MothTongue::settles);
        due.looks("settles() behind the one bite", 1, x -> {
            Scenes.page(x, 2, 5);
            Scenes.moth(x, 0, 2, 5, 0);
        }, MothTongue::settles);
        due.refuses("settles() with a silver one", Due.NONE, AheadTest::twoPages, MothTongue::settles);
    }

    private static void alike() {
        due.looks("alike(0, 5)", 5, AheadTest::twoPages, x -> x.alike(0, 5));
        due.looks("alike(5, 0)", 5, AheadTest::twoPages, x -> x.alike(5, 0));
        due.looks("alike(4, 5)", 0, AheadTest::twoPages, x -> x.alike(4, 5));
        due.refuses("alike(0, 1)", Due.NONE, AheadTest::twoPages, x -> x.alike(0, 1));
        due.refuses("alike of what says the same in other words", Due.NONE, x -> {
            Scenes.page(x, 0, 2);
            Scenes.page(x, 1, 0, 1);
        }, x -> x.alike(0, 1));
        due.looks("alike at the last night", 200, x -> {
            counting(x, 2, 8, 8, 9, 8, 7);
            Scenes.page(x, 1, 9, 9, 1, 9, 8, 4);
        }, x -> x.alike(0, 1));
        due.refuses("alike a night too late", Due.NONE, x -> {
            counting(x, 2, 8, 8, 9, 8, 7);
            Scenes.page(x, 1, 4, 9, 1, 9, 8, 4);
        }, x -> x.alike(0, 1));
        due.looks("alike now, though never again", 0, x -> {
            Scenes.page(x, 0, 3);
            Scenes.page(x, 1, 3);
            x.moth(1, 0);
        }, x -> x.alike(0, 1));
        due.refuses("alike but for the last place", Due.NONE, x -> {
            Scenes.page(x, 0, 3, 0, 0, 0, 0, 0, 0, 1);
            Scenes.page(x, 1, 3);
        }, x -> x.alike(0, 1));
        due.looks("alike for a single night, the fewest", 2, x -> {
            Scenes.page(x, 0, 3);
            Scenes.page(x, 1, 1);
            x.moth(1, 0);
        }, x -> x.alike(1, 0));
        int[][] wrong = {{-1, 0}, {6, 0}, {0, -1}, {0, 6}, {0, 0}, {5, 5}, {6, 6}, {Integer.MIN_VALUE, 1}};
        for (int[] w : wrong) {
            due.refuses("alike" + Arrays.toString(w), Due.BEYOND, Scenes::busy, y -> y.alike(w[0], w[1]));
        }
    }

    /** What is told ahead, from no nights to a hundred, is what is there once the nights have gone by. */
    private static void aheadIsWhatComes() {
        for (int n = 0; n <= 100; n++) {
            MothTongue goes = gone(n);
            MothTongue looks = Due.made(AheadTest::lively);
            for (int place = 0; place < 8; place++) {
                due.is("ahead(0, " + place + ", " + n + ")", looks.ahead(0, place, n), goes.reads(0, place));
            }
            for (int page = 0; page < 6; page++) {
                due.is("says(" + page + ", " + n + ")", looks.says(page, n), goes.page(page, 0));
            }
            for (int moth = 0; moth < 4; moth++) {
                due.is("fed(" + moth + ", " + n + ")", looks.fed(moth, n), goes.of(moth, 3));
            }
        }
    }

    private static MothTongue gone(int nights) {
        MothTongue x = Due.made(AheadTest::lively);
        for (int left = nights; left > 0; left -= 60) {
            x.go(Math.min(left, 60));
        }
        return x;
    }

    private static void lively(MothTongue x) {
        counting(x, 4, 2, 6, 2, 7);
        Scenes.page(x, 3, 9, 9, 9, 9, 9, 9, 9, 9);
        Scenes.moth(x, 1, 3, 1, 9960);
        Scenes.moth(x, 5, 3, 1, 7);
    }
}
