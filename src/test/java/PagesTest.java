/** Promises 2 to 5. */
final class PagesTest {
    private static final Due due = new Due();

    public static void main(String[] args) {
        word();
        reads();
        page();
        copied();
        due.end();
    }

    private static void word() {
        MothTongue x = new MothTongue();
        due.is("word(0, 0, 5)", x.word(0, 0, 5), 0);
        due.is("word(0, 0, 9)", x.word(0, 0, 9), 5);
        due.is("word(5, 7, 1)", x.word(5, 7, 1), 0);
        due.is("word(5, 7, 0)", x.word(5, 7, 0), 1);
        due.is("reads(0, 0)", x.reads(0, 0), 9);
        due.is("reads(0, 1)", x.reads(0, 1), 0);
        due.is("reads(5, 7)", x.reads(5, 7), 0);
        everyWordEverywhere();
        int[][] wrong = {{-1, 0, 0}, {6, 0, 0}, {0, -1, 0}, {0, 8, 0}, {0, 0, -1}, {0, 0, 10},
            {Integer.MIN_VALUE, 0, 0}, {Integer.MAX_VALUE, 0, 0}, {0, Integer.MAX_VALUE, 3},
            {0, Integer.MIN_VALUE, 3}, {0, 0, Integer.MAX_VALUE}, {0, 0, Integer.MIN_VALUE}};
        for (int[] w : wrong) {
            due.refuses("word" + java.util.Arrays.toString(w), Due.BEYOND, Scenes::busy, y -> y.word(w[0], w[1], w[2]));
        }
    }

    /** Each word is taken at each place, answers what was there and touches no other place. */
    private static void everyWordEverywhere() {
        for (int page = 0; page < 6; page++) {
            MothTongue x = new MothTongue();
            for (int place = 0; place < 8; place++) {
                for (int v = 0; v <= 9; v++) {
                    due.is("word(" + page + ", " + place + ", " + v + ")", x.word(page, place, v), Math.max(0, v - 1));
                }
                due.is("the same word again", x.word(page, place, 9), 9);
                due.is("holes", x.now(1), 47 - place);
                due.is("places", x.page(page, 3), (2 << place) - 1);
            }
        }
    }

    private static void reads() {
        MothTongue x = new MothTongue();
        for (int page = 0; page < 6; page++) {
            for (int place = 0; place < 8; place++) {
                x.word(page, place, (page * 8 + place) % 10);
            }
        }
        for (int page = 0; page < 6; page++) {
            for (int place = 0; place < 8; place++) {
                due.is("reads(" + page + ", " + place + ")", x.reads(page, place), (page * 8 + place) % 10);
            }
        }
        due.looks("reads(0, 7)", 8, Scenes::busy, y -> y.reads(0, 7));
        int[][] wrong = {{-1, 0}, {6, 0}, {0, -1}, {0, 8}, {Integer.MAX_VALUE, 0}, {0, Integer.MIN_VALUE}};
        for (int[] w : wrong) {
            due.refuses("reads" + java.util.Arrays.toString(w), Due.BEYOND, Scenes::busy, y -> y.reads(w[0], w[1]));
        }
    }

    private static void page() {
        Due.Scene scene = x -> {
            Scenes.page(x, 2, 3, 0, 0, 0, 4, 0, 0, 9);
            Scenes.page(x, 3, 9, 9, 9, 9, 9, 9, 9, 9);
            x.moth(0, 2);
            x.moth(1, 3);
            x.moth(2, 2);
        };
        due.looks("page(2, 0)", 3 + 20 + 72, scene, x -> x.page(2, 0));
        due.looks("page(2, 1)", 5, scene, x -> x.page(2, 1));
        due.looks("page(2, 2)", 5, scene, x -> x.page(2, 2));
        due.looks("page(2, 3)", 1 + 16 + 128, scene, x -> x.page(2, 3));
        due.looks("page(3, 0)", 324, scene, x -> x.page(3, 0));
        due.looks("page(3, 1)", 0, scene, x -> x.page(3, 1));
        due.looks("page(3, 2)", 2, scene, x -> x.page(3, 2));
        due.looks("page(3, 3)", 255, scene, x -> x.page(3, 3));
        due.looks("page(5, 0)", 0, scene, x -> x.page(5, 0));
        due.looks("page(5, 1)", 8, scene, x -> x.page(5, 1));
        due.looks("page(5, 2)", 0, scene, x -> x.page(5, 2));
        due.looks("page(5, 3)", 0, scene, x -> x.page(5, 3));
        for (int page = 0; page < 6; page += 5) {
            int p = page;
            due.looks("eight moths on one page", 255, x -> {
                for (int i = 0; i < 8; i++) {
                    x.moth(i % 7, p);
                }
            }, x -> x.page(p, 2));
        }
        for (int place = 0; place < 8; place++) {
            int at = place;
            Due.Scene lone = x -> x.word(4, at, 1);
            due.looks("a lone word says its place and 1", place + 1, lone, x -> x.page(4, 0));
            due.looks("a lone word's holes", 7, lone, x -> x.page(4, 1));
            due.looks("a lone word's place", 1 << place, lone, x -> x.page(4, 3));
        }
        int[][] wrong = {{-1, 0}, {6, 0}, {0, -1}, {0, 4}, {6, 4}, {Integer.MIN_VALUE, 3}};
        for (int[] w : wrong) {
            due.refuses("page" + java.util.Arrays.toString(w), Due.BEYOND, Scenes::busy, y -> y.page(w[0], w[1]));
        }
    }

    private static void copied() {
        MothTongue x = new MothTongue();
        Scenes.page(x, 1, 1, 2, 3, 4);
        Scenes.page(x, 5, 1, 0, 3, 5, 6);
        due.is("copied(1, 5)", x.copied(1, 5), 3);
        int[] words = {1, 2, 3, 4, 0, 0, 0, 0};
        for (int place = 0; place < 8; place++) {
            due.is("from stays", x.reads(1, place), words[place]);
            due.is("to becomes", x.reads(5, place), words[place]);
        }
        due.is("copied(1, 5) again", x.copied(1, 5), 0);
        due.is("copied(1, 1)", x.copied(1, 1), 0);
        due.is("copied(0, 1)", x.copied(0, 1), 4);
        due.is("page(1, 1)", x.page(1, 1), 8);
        due.is("a page apart", x.page(5, 0), 1 + 4 + 9 + 16);
        Scenes.page(x, 3, 9, 8, 7, 6, 5, 4, 3, 2);
        due.is("full to bare", x.copied(3, 4), 8);
        due.is("as full", x.page(4, 0), x.page(3, 0));
        due.is("full to itself", x.copied(3, 3), 0);
        due.is("full as it was", x.page(3, 0), 9 + 16 + 21 + 24 + 25 + 24 + 21 + 16);
        due.is("bare to full", x.copied(2, 3), 8);
        due.is("bare", x.page(3, 1), 8);
        due.is("bare to bare", x.copied(2, 3), 0);
        due.is("the copy is another page", x.page(4, 1), 0);
        int[][] wrong = {{-1, 0}, {6, 0}, {0, -1}, {0, 6}, {6, 6}, {-1, -1}};
        for (int[] w : wrong) {
            due.refuses("copied" + java.util.Arrays.toString(w), Due.BEYOND, Scenes::busy, y -> y.copied(w[0], w[1]));
        }
    }
}
