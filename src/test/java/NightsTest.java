/** Promises 10 and 11. */
final class NightsTest {
    private static final Due due = new Due();

    public static void main(String[] args) {
        go();
        sixtyAtOnce();
        moths();
        lastNight();
        now();
        due.end();
    }

    private static void go() {
        MothTongue x = new MothTongue();
        Scenes.page(x, 0, 3, 2);
        Scenes.moth(x, 1, 0, 1, 0);
        due.is("go(1)", x.go(1), 46);
        due.is("reads(0, 0)", x.reads(0, 0), 2);
        due.is("FED", x.of(0, 3), 1);
        due.is("NIGHT", x.now(0), 1);
        due.is("go(2)", x.go(2), 47);
        due.is("reads(0, 0)", x.reads(0, 0), 0);
        due.is("reads(0, 1)", x.reads(0, 1), 2);
        due.is("NIGHT", x.now(0), 3);
        due.is("go(60)", x.go(60), 48);
        due.is("FED", x.of(0, 3), 5);
        due.is("NIGHT", x.now(0), 63);
        for (int n : new int[] {0, 61, -1, Integer.MIN_VALUE, Integer.MAX_VALUE}) {
            due.refuses("go(" + n + ")", Due.BEYOND, Scenes::busy, y -> y.go(n));
        }
    }

    /** Moths bite by numbers, each by how all is then. */
    private static void moths() {
        MothTongue x = new MothTongue();
        Scenes.page(x, 0, 5);
        Scenes.moth(x, 0, 0, 5, 0);
        Scenes.moth(x, 2, 0, 1, 0);
        x.go(1);
        due.is("the moth eats first", x.of(0, 3), 5);
        due.is("nothing is left for the silver one", x.of(1, 3), 0);

        x = new MothTongue();
        Scenes.page(x, 0, 7);
        Scenes.moth(x, 2, 0, 1, 0);
        Scenes.moth(x, 0, 0, 7, 0);
        Scenes.moth(x, 1, 0, 1, 0);
        x.go(1);
        due.is("the silver one leaves 3", x.of(0, 3), 3);
        due.is("the moth finds no 7", x.of(1, 3), 0);
        due.is("the larva leaves 2", x.reads(0, 0), 2);

        // Three larvae on one page, one on another.
        x = new MothTongue();
        Scenes.page(x, 4, 2, 9);
        Scenes.page(x, 5, 1);
        x.moth(1, 4);
        x.moth(1, 5);
        x.moth(1, 4);
        x.moth(1, 4);
        due.is("holes", x.go(1), 47);
        due.is("reads(4, 0)", x.reads(4, 0), 0);
        due.is("reads(4, 1)", x.reads(4, 1), 8);
        due.is("reads(5, 0)", x.reads(5, 0), 0);

        // FED is 9999 at most.
        x = new MothTongue();
        Scenes.page(x, 0, 9, 9);
        Scenes.moth(x, 0, 0, 9, 9989);
        x.go(1);
        due.is("FED below the most", x.of(0, 3), 9998);
        x.go(1);
        due.is("FED at the most", x.of(0, 3), 9999);
        due.is("all the same it bites", x.page(0, 1), 8);
    }

    /**
     * No 512 calls reach the last night, so the document leaves free what is answered there; this
     * program keeps to its words all the same.
     */
    private static void lastNight() {
        MothTongue x = new MothTongue();
        Scenes.page(x, 0, 9);
        for (int i = 0; i < 1666; i++) {
            x.go(60);
        }
        due.is("NIGHT", x.now(0), 99960);
        x.moth(1, 0);
        due.is("go(40)", x.go(40), Due.STATE);
        due.is("NIGHT stays", x.now(0), 99960);
        due.is("words stay", x.reads(0, 0), 9);
        x.image();
        due.is("go(39)", x.go(39), 48);
        due.is("NIGHT", x.now(0), 99999);
        due.is("undo()", x.undo(), 99960);
        due.is("go(36)", x.go(36), 48);
        due.is("lights(4)", x.lights(4), Due.STATE);
        due.is("z stays", x.count(6), 1);
        due.is("lights(3)", x.lights(3), 48);
        due.is("NIGHT", x.now(0), 99999);
        due.is("go(1)", x.go(1), Due.STATE);
        due.is("go(61)", x.go(61), Due.BEYOND);
        due.is("lights(1)", x.lights(1), Due.STATE);
        due.is("lights(21)", x.lights(21), Due.BEYOND);
        due.is("status(4)", x.status(4), 4);
        due.is("status(0)", x.status(0), 2);
    }

    private static void now() {
        Due.Scene scene = x -> {
            Scenes.page(x, 0, 1, 2, 3);
            Scenes.page(x, 5, 0, 0, 0, 0, 0, 0, 0, 9);
            Scenes.moth(x, 0, 0, 9, 10);
            Scenes.moth(x, 2, 0, 2, 20);
            Scenes.moth(x, 6, 3, 9, 30);
            x.go(3);
        };
        // The silver one makes 2 an 8, a 2 and an 8.
        int[] want = {3, 44, 1 + 16 + 9 + 72, 10 + 20 + 1 + 4 + 1 + 30, 5, 2 + 4 + 8 + 16};
        for (int what = 0; what < want.length; what++) {
            int w = what;
            due.looks("now(" + what + ")", want[what], scene, x -> x.now(w));
        }
        int[] fresh = {0, 48, 0, 0, 0, 63};
        for (int what = 0; what < fresh.length; what++) {
            due.is("a new object's now(" + what + ")", new MothTongue().now(what), fresh[what]);
        }
        MothTongue full = new MothTongue();
        for (int page = 0; page < 6; page++) {
            Scenes.page(full, page, 9, 9, 9, 9, 9, 9, 9, 9);
        }
        for (int i = 0; i < 8; i++) {
            Scenes.moth(full, 0, 0, 8, 9999);
        }
        int[] most = {0, 0, 6 * 324, 8 * 9999, 255, 0};
        for (int what = 0; what < most.length; what++) {
            due.is("a full drawer's now(" + what + ")", full.now(what), most[what]);
        }
        for (int what : new int[] {-1, 6, Integer.MIN_VALUE, Integer.MAX_VALUE}) {
            due.refuses("now(" + what + ")", Due.BEYOND, Scenes::busy, y -> y.now(what));
        }
    }

    /** Sixty nights at once are sixty nights one by one. */
    private static void sixtyAtOnce() {
        Due.Scene scene = x -> {
            Scenes.page(x, 0, 9, 9, 9, 9, 9, 9, 9, 9);
            Scenes.page(x, 5, 3, 8, 5);
            Scenes.moth(x, 1, 0, 1, 0);
            Scenes.moth(x, 3, 5, 1, 0);
            Scenes.moth(x, 4, 5, 2, 0);
        };
        for (int nights : new int[] {1, 2, 59, 60}) {
            MothTongue atOnce = Due.made(scene);
            MothTongue single = Due.made(scene);
            int holes = 0;
            for (int n = 0; n < nights; n++) {
                holes = single.go(1);
            }
            due.is("go(" + nights + ")", atOnce.go(nights), holes);
            due.is("the larva's FED behind " + nights, atOnce.of(0, 3), nights);
            due.is("NIGHT behind " + nights, atOnce.now(0), nights);
            due.isTrue("all is as one by one behind " + nights, Observed.of(atOnce).equals(Observed.of(single)));
        }
    }
}
