import java.util.Arrays;

/** Promises 19 to 23. */
final class ChoicesTest {
    private static final Due due = new Due();

    public static void main(String[] args) {
        put();
        tasteFor();
        kindFor();
        wrongMothPageNights();
        swapFor();
        out();
        due.end();
    }

    private static void put() {
        Due.Scene scene = x -> {
            Scenes.page(x, 0, 9);
            Scenes.page(x, 4, 1);
            Scenes.moth(x, 1, 0, 1, 0);
            Scenes.moth(x, 2, 2, 1, 0);
        };
        due.looks("a larva is least harm elsewhere", 1, scene, x -> x.put(0, 0, 3));
        due.looks("a larva is no harm on page 0", 0, scene, x -> x.put(0, 4, 1));
        due.looks("a silver one makes 1 a 9", 4, scene, x -> x.put(1, 4, 1));
        due.looks("and back in two nights: the least page", 0, scene, x -> x.put(1, 4, 2));
        due.looks("in no nights the least page", 0, scene, x -> x.put(1, 4, 0));
        due.looks("in 39 nights", 4, scene, x -> x.put(1, 4, 39));
        due.looks("in 40 nights", 0, scene, x -> x.put(1, 4, 40));
        due.looks("the last page, as on each other one it does harm", 5, x -> {
            for (int page = 0; page < 5; page++) {
                Scenes.page(x, page, 4);
            }
            Scenes.page(x, 5, 1);
            Scenes.moth(x, 2, 0, 1, 0);
        }, x -> x.put(0, 5, 1));
        due.looks("a bare page says nothing wherever it is: the first", 0, scene, x -> x.put(0, 5, 40));
        due.looks("where it is makes no odds to a page of another's", 0, x -> {
            Scenes.page(x, 3, 9, 9);
            Scenes.moth(x, 1, 3, 1, 0);
            Scenes.moth(x, 0, 5, 1, 0);
        }, x -> x.put(1, 3, 1));
    }

    private static void tasteFor() {
        Due.Scene scene = x -> {
            Scenes.page(x, 3, 2, 3);
            Scenes.moth(x, 2, 3, 4, 0);
            Scenes.moth(x, 0, 3, 2, 0);
        };
        // Even: 8 + 2 * 3, and nothing for the other moth; odd: 2, eaten by the other one, + 2 * 7.
        due.looks("even or odd", 1, x -> {
            Scenes.page(x, 3, 2, 3);
            Scenes.moth(x, 2, 3, 4, 0);
        }, x -> x.tasteFor(0, 3, 1));
        due.looks("even, as the other moth eats 2", 2, x -> {
            Scenes.page(x, 3, 2, 4);
            Scenes.moth(x, 2, 3, 1, 0);
            Scenes.moth(x, 0, 3, 2, 0);
        }, x -> x.tasteFor(0, 3, 1));
        due.looks("a taste of nothing there", 1, scene, x -> x.tasteFor(1, 3, 0));
        due.looks("a moth does best with what isn't there", 4, x -> {
            Scenes.page(x, 0, 1, 2, 3);
            Scenes.moth(x, 0, 0, 1, 0);
        }, x -> x.tasteFor(0, 0, 2));
        due.looks("9 of all", 9, x -> {
            Scenes.page(x, 0, 1, 2, 3, 4, 5, 6, 7, 8);
            Scenes.moth(x, 0, 0, 1, 0);
        }, x -> x.tasteFor(0, 0, 40));
        due.looks("another page", 1, scene, x -> x.tasteFor(0, 2, 7));
        Due.Scene turning = x -> {
            Scenes.page(x, 0, 7);
            Scenes.moth(x, 2, 0, 5, 0);
        };
        due.looks("7 is 3 behind 39 turns: an even taste", 2, turning, x -> x.tasteFor(0, 0, 39));
        due.looks("7 is 7 behind 40 turns: the least taste", 1, turning, x -> x.tasteFor(0, 0, 40));
        due.looks("in no nights the least taste", 1, turning, x -> x.tasteFor(0, 0, 0));
    }

    private static void kindFor() {
        due.looks("a scholar makes 5 a 6", 3, x -> {
            Scenes.page(x, 0, 5);
            Scenes.moth(x, 6, 0, 5, 0);
        }, x -> x.kindFor(0, 0, 1));
        due.looks("a moth of another taste does nothing", 0, x -> {
            Scenes.page(x, 0, 9, 9);
            Scenes.moth(x, 6, 0, 8, 0);
        }, x -> x.kindFor(0, 0, 1));
        due.looks("an old one of another place does nothing", 5, x -> {
            Scenes.page(x, 0, 9, 9);
            Scenes.moth(x, 6, 0, 9, 2);
        }, x -> x.kindFor(0, 0, 1));
        // Of 8 a larva leaves 7, which the other moth eats, and the others at most 3; a grub eats 2.
        due.looks("a grub takes off where little is said", 6, x -> {
            Scenes.page(x, 0, 0, 0, 0, 0, 0, 0, 8, 2);
            Scenes.moth(x, 0, 0, 8, 6);
            Scenes.moth(x, 0, 0, 7, 0);
        }, x -> x.kindFor(0, 0, 1));
        due.looks("in no nights the least kind", 0, x -> {
            Scenes.page(x, 0, 5);
            Scenes.moth(x, 6, 0, 5, 0);
        }, x -> x.kindFor(0, 0, 0));
        Due.Scene seven = x -> {
            Scenes.page(x, 0, 7);
            Scenes.moth(x, 6, 0, 7, 0);
        };
        due.looks("in 39 nights a silver one leaves 3, a scholar 4", 3, seven, x -> x.kindFor(0, 0, 39));
        due.looks("in 40 nights a silver one leaves 7", 2, seven, x -> x.kindFor(0, 0, 40));
        due.looks("another page: the least kind", 0, seven, x -> x.kindFor(0, 5, 40));
    }

    private static void wrongMothPageNights() {
        int[][] wrong = {{-1, 0, 0}, {3, 0, 0}, {8, 0, 0}, {0, -1, 0}, {0, 6, 0}, {0, 0, -1}, {0, 0, 41},
            {Integer.MAX_VALUE, 0, 0}, {0, Integer.MIN_VALUE, 0}, {0, 0, Integer.MAX_VALUE}, {0, 0, Integer.MIN_VALUE}};
        for (int[] w : wrong) {
            due.refuses("put" + Arrays.toString(w), Due.BEYOND, Scenes::busy, y -> y.put(w[0], w[1], w[2]));
            due.refuses("tasteFor" + Arrays.toString(w), Due.BEYOND, Scenes::busy, y -> y.tasteFor(w[0], w[1], w[2]));
            due.refuses("kindFor" + Arrays.toString(w), Due.BEYOND, Scenes::busy, y -> y.kindFor(w[0], w[1], w[2]));
        }
    }

    private static void swapFor() {
        Due.Scene scene = x -> {
            Scenes.page(x, 0, 9);
            Scenes.page(x, 1, 1);
            Scenes.moth(x, 1, 0, 1, 0);
            Scenes.moth(x, 0, 2, 5, 0);
            Scenes.moth(x, 0, 3, 5, 0);
            Scenes.moth(x, 2, 5, 3, 0);
        };
        due.looks("the larva away: moths 0 and 1", 1, scene, x -> x.swapFor(0, 2));
        due.looks("the larva or the silver one comes to page 1: none", 1, scene, x -> x.swapFor(1, 1));
        due.looks("the silver one to page 1", 8 * 2 + 3, x -> {
            scene.on(x);
            x.change(2, 1, 1);
        }, x -> x.swapFor(1, 1));
        due.looks("in two nights nothing is won: the least pair", 1, x -> {
            scene.on(x);
            x.change(2, 1, 1);
        }, x -> x.swapFor(1, 2));
        due.looks("in no nights the least pair", 1, scene, x -> x.swapFor(0, 0));
        due.looks("the last pair", 8 * 6 + 7, x -> {
            Scenes.page(x, 1, 1);
            for (int i = 0; i < 6; i++) {
                Scenes.moth(x, 0, 0, 5, 0);
            }
            Scenes.moth(x, 0, 1, 5, 0);
            Scenes.moth(x, 2, 0, 1, 0);
        }, x -> x.swapFor(1, 39));
        due.looks("the lesser moth to page 1", 2, x -> {
            Scenes.page(x, 1, 1);
            Scenes.moth(x, 2, 0, 1, 0);
            Scenes.moth(x, 0, 4, 5, 0);
            Scenes.moth(x, 0, 1, 5, 0);
        }, x -> x.swapFor(1, 1));
        Due.Scene turning = x -> {
            Scenes.page(x, 1, 1);
            Scenes.moth(x, 0, 2, 5, 0);
            Scenes.moth(x, 0, 1, 5, 0);
            Scenes.moth(x, 2, 0, 1, 0);
        };
        due.looks("1 is 9 behind 39 turns", 8 * 1 + 2, turning, x -> x.swapFor(1, 39));
        due.looks("1 is 1 behind 40 turns: the least pair", 1, turning, x -> x.swapFor(1, 40));
        due.looks("two on one page change nothing, and that is best", 1, x -> {
            Scenes.page(x, 1, 9);
            Scenes.moth(x, 0, 0, 5, 0);
            Scenes.moth(x, 0, 0, 5, 0);
            Scenes.moth(x, 0, 1, 5, 0);
            Scenes.moth(x, 1, 0, 5, 0);
        }, x -> x.swapFor(1, 1));
        due.refuses("swapFor with no moths", Due.NONE, Scenes::nothing, x -> x.swapFor(0, 0));
        due.refuses("swapFor with one moth", Due.NONE, x -> x.moth(0, 0), x -> x.swapFor(0, 0));
        int[][] wrong = {{-1, 0}, {6, 0}, {0, -1}, {0, 41}, {Integer.MIN_VALUE, 0}, {0, Integer.MAX_VALUE}};
        for (int[] w : wrong) {
            due.refuses("swapFor" + Arrays.toString(w), Due.BEYOND, Scenes::busy, y -> y.swapFor(w[0], w[1]));
            due.refuses("BEYOND is asked ahead of NONE", Due.BEYOND, Scenes::nothing, y -> y.swapFor(w[0], w[1]));
        }
    }

    private static void out() {
        due.looks("all that bite on the page", 2 + 8, x -> {
            Scenes.page(x, 1, 5, 5);
            Scenes.page(x, 0, 5);
            Scenes.moth(x, 1, 0, 1, 0);
            Scenes.moth(x, 1, 1, 1, 0);
            Scenes.moth(x, 0, 1, 9, 0);
            Scenes.moth(x, 6, 1, 1, 0);
        }, x -> x.out(1, 1));
        Due.Scene turning = x -> {
            Scenes.page(x, 0, 3);
            x.moth(2, 0);
            x.moth(2, 0);
            x.moth(2, 0);
        };
        due.looks("one of three that turn a word: the least", 1, turning, x -> x.out(0, 1));
        due.looks("none, as six turns are none", 0, turning, x -> x.out(0, 2));
        due.looks("in 19 nights", 1, turning, x -> x.out(0, 19));
        due.looks("in 20 nights", 0, turning, x -> x.out(0, 20));
        due.looks("in no nights none", 0, turning, x -> x.out(0, 0));
        due.looks("another page", 0, turning, x -> x.out(1, 19));
        // Without both moths the silver one turns 1 to 9 and back; but without the silver one is fewer.
        due.looks("fewest ahead of least", 4, x -> {
            Scenes.page(x, 0, 8, 1);
            Scenes.moth(x, 0, 0, 9, 0);
            Scenes.moth(x, 0, 0, 9, 0);
            Scenes.moth(x, 2, 0, 9, 0);
        }, x -> x.out(0, 2));
        due.looks("all eight", 255, x -> {
            Scenes.page(x, 0, 9, 9, 9, 9, 9, 9, 9, 9);
            for (int i = 0; i < 8; i++) {
                x.moth(1, 0);
            }
        }, x -> x.out(0, 1));
        due.looks("no moths", 0, x -> Scenes.page(x, 0, 9), x -> x.out(0, 20));
        due.looks("a bare page", 0, x -> x.moth(1, 0), x -> x.out(0, 20));
        due.looks("the last moth alone", 128, x -> {
            Scenes.page(x, 5, 9);
            for (int i = 0; i < 7; i++) {
                Scenes.moth(x, 0, 5, 8, 0);
            }
            Scenes.moth(x, 6, 5, 8, 0);
        }, x -> x.out(5, 20));
        // Two turn 3 to 7 and back; a moth eats it if it is 7 when its turn comes.
        due.looks("one may stay that would do harm with others", 2, x -> {
            Scenes.page(x, 0, 3);
            Scenes.moth(x, 2, 0, 1, 0);
            Scenes.moth(x, 0, 0, 7, 0);
            Scenes.moth(x, 2, 0, 1, 0);
        }, x -> x.out(0, 1));
        due.looks("words as now at the end, though not between", 0, x -> {
            Scenes.page(x, 0, 7);
            Scenes.moth(x, 2, 0, 1, 0);
        }, x -> x.out(0, 20));
        due.looks("words not as now at the end", 1, x -> {
            Scenes.page(x, 0, 7);
            Scenes.moth(x, 2, 0, 1, 0);
        }, x -> x.out(0, 19));
        int[][] wrong = {{-1, 0}, {6, 0}, {0, -1}, {0, 21}, {Integer.MIN_VALUE, 0}, {0, Integer.MAX_VALUE}};
        for (int[] w : wrong) {
            due.refuses("out" + Arrays.toString(w), Due.BEYOND, Scenes::busy, y -> y.out(w[0], w[1]));
        }
    }
}
