/** Promises 39 to 43. */
final class ImagesTest {
    private static final Due due = new Due();

    public static void main(String[] args) {
        imageAndUndo();
        theLatest();
        emptyAndFull();
        whatIsNotKept();
        tear();
        count();
        status();
        due.end();
    }

    private static void imageAndUndo() {
        due.refuses("undo() of nothing", Due.NONE, Scenes::nothing, MothTongue::undo);
        due.refuses("undo() of what is torn", Due.NONE, x -> {
            Scenes.busy(x);
            x.tear();
        }, MothTongue::undo);
        MothTongue x = Due.made(Scenes::busy);
        MothTongue twin = Due.made(Scenes::busy);
        due.is("image()", x.image(), 1);
        change(x);
        due.is("undo() answers NIGHT", x.undo(), 2);
        twin.image();
        due.isTrue("all is as it was kept", Observed.of(x).equals(Observed.of(twin)));

        // It stays, and what comes later doesn't touch it.
        x = Due.made(Scenes::busy);
        twin = Due.made(Scenes::busy);
        x.image();
        twin.image();
        for (int i = 0; i < 3; i++) {
            change(x);
            due.is("undo() again", x.undo(), 2);
        }
        due.isTrue("all is as it was kept, again", Observed.of(x).equals(Observed.of(twin)));
    }

    /** Something else of everything that an image keeps. */
    private static void change(MothTongue x) {
        x.word(4, 4, 4);
        x.copied(4, 0);
        x.moth(6, 5);
        for (int what = 0; what < 4; what++) {
            x.change(0, what, 3);
        }
        x.hold(3, 1);
        x.hold(4, 1);
        x.hold(9, -1);
        x.seed(-5);
        x.go(7);
        x.lights(3);
    }

    private static void theLatest() {
        MothTongue x = new MothTongue();
        x.word(0, 0, 1);
        x.image();
        x.word(0, 0, 2);
        x.go(1);
        x.image();
        x.word(0, 0, 3);
        due.is("undo()", x.undo(), 1);
        due.is("reads(0, 0)", x.reads(0, 0), 2);
        due.is("undo()", x.undo(), 1);
        due.is("reads(0, 0)", x.reads(0, 0), 2);
    }

    private static void whatIsNotKept() {
        MothTongue x = new MothTongue();
        Scenes.tape(x, "page 1 4");
        Scenes.sheet(x, 0, 8, 7);
        x.image();
        x.wipe();
        Scenes.tape(x, "page 1 56");
        Scenes.sheet(x, 0, 8, 8, 9);
        x.sheet(1, 8, 2);
        x.reads(9, 9);
        x.undo();
        due.is("the tape stays", x.count(5), 9);
        due.is("text()", x.text(), -8);
        due.is("sheet 0 stays", x.load(0), 2);
        due.is("reads(0, 0)", x.reads(0, 0), 8);
        due.is("sheet 1 stays", x.judge(1), 1);
        due.is("status stays", x.status(0), 1);
    }

    private static void tear() {
        MothTongue x = new MothTongue();
        due.is("tear()", x.tear(), 0);
        x.image();
        x.image();
        x.word(0, 0, 5);
        due.is("tear()", x.tear(), 1);
        due.is("tear()", x.tear(), 0);
        due.is("undo()", x.undo(), Due.NONE);
        due.is("reads(0, 0)", x.reads(0, 0), 5);
        x.image();
        due.is("undo()", x.undo(), 0);
        due.is("reads(0, 0)", x.reads(0, 0), 5);
        due.is("status(3)", x.status(3), 1);
    }

    private static void count() {
        Due.Scene scene = x -> {
            Scenes.page(x, 0, 1, 2, 3);
            Scenes.page(x, 5, 0, 0, 0, 0, 0, 0, 0, 9);
            Scenes.moth(x, 0, 0, 9, 10);
            Scenes.moth(x, 5, 3, 9, 20);
            x.go(4);
            x.seed(-9);
            x.hold(1, 0);
            x.hold(2, 0);
            x.hold(3, 1);
            Scenes.tape(x, "moth");
        };
        int[] want = {4, 2, 44, 30, 1 + 4 + 9 + 72, 4, -9, 3};
        for (int what = 0; what < want.length; what++) {
            int w = what;
            due.looks("count(" + what + ")", want[what], scene, x -> x.count(w));
        }
        int[] most = {3, 8, 0, 8 * 9999, 6 * 324, 120, Integer.MAX_VALUE, 10};
        for (int what = 0; what < most.length; what++) {
            int w = what;
            due.looks("count(" + what + ") of all there can be", most[what], x -> {
                full(x);
                for (int page = 0; page < 6; page++) {
                    Scenes.page(x, page, 9, 9, 9, 9, 9, 9, 9, 9);
                }
                x.image();
                Scenes.tape(x, "?".repeat(120));
                x.seed(Integer.MAX_VALUE);
            }, x -> x.count(w));
            int least = what == 2 ? 48 : what == 6 ? 1 : 0;
            due.looks("count(" + what + ") of nothing", least, Scenes::nothing, x -> x.count(w));
        }
        for (int what : new int[] {-1, 8, Integer.MIN_VALUE, Integer.MAX_VALUE}) {
            due.refuses("count(" + what + ")", Due.BEYOND, Scenes::busy, x -> x.count(what));
        }
    }

    private static void status() {
        MothTongue x = new MothTongue();
        x.sheet(0, 8, 1);
        x.sheet(1, 16, 1);
        x.go(0);
        x.odds(24, 0);
        x.moth(9, 0);
        for (int i = 0; i < 10; i++) {
            x.moth(0, 0);
        }
        x.copy(0, 0, 1, 0, 1);
        x.undo();
        x.load(2);
        x.as(0, 0);
        x.judge(3);
        x.sheet(0, 8, -1);
        int[] want = {3, 2, 1, 1, 0, 3, 1};
        int all = 0;
        for (int which = 0; which < 7; which++) {
            due.is("status(" + which + ")", x.status(which), want[which]);
            all += want[which];
        }
        due.is("status(-1)", x.status(-1), all);
        x.text();
        due.is("a FAULT is no finding", x.status(-1), all);
        x.image();
        due.is("status(7)", x.status(7), Due.BEYOND);
        due.is("counted from then on", x.status(0), 4);
        due.is("status(-2)", x.status(-2), Due.BEYOND);
        x.undo();
        due.is("undo() takes none back", x.status(0), 5);
        due.is("all", x.status(-1), all + 2);
        for (int which : new int[] {-2, 7, Integer.MIN_VALUE, Integer.MAX_VALUE}) {
            due.refuses("status(" + which + ")", Due.BEYOND, Scenes::busy, y -> y.status(which));
        }
        due.looks("status(5)", 0, Scenes::busy, y -> y.status(5));
    }

    private static void emptyAndFull() {
        // Of nothing, over a full drawer.
        MothTongue x = new MothTongue();
        x.image();
        full(x);
        due.is("undo() to nothing", x.undo(), 0);
        MothTongue fresh = new MothTongue();
        fresh.image();
        for (int s = 0; s < 4; s++) {
            due.is("moths are gone", x.of(s, 0), Due.BEYOND);
        }
        due.isTrue("all is as at first", Observed.of(x).equals(Observed.of(fresh)));

        // Of a full drawer, over nothing.
        MothTongue kept = new MothTongue();
        full(kept);
        kept.image();
        Scenes.page(kept, 0);
        for (int page = 1; page < 6; page++) {
            kept.copied(0, page);
        }
        for (int spot = 0; spot < 10; spot++) {
            kept.hold(spot, -1);
        }
        kept.seed(1);
        due.is("undo() to a full drawer", kept.undo(), 3);
        MothTongue twin = new MothTongue();
        full(twin);
        twin.image();
        due.is("a 9th moth", kept.moth(0, 0), Due.FULL);
        due.isTrue("all is as in the full drawer", Observed.of(kept).equals(Observed.of(twin)));

        // A moth that comes where one was undone has nothing of that one.
        MothTongue again = new MothTongue();
        again.image();
        Scenes.moth(again, 4, 3, 9, 9999);
        again.hold(2, 0);
        again.undo();
        due.is("the number comes again", again.moth(1, 2), 0);
        int[] want = {1, 2, 1, 0};
        for (int what = 0; what < 4; what++) {
            due.is("of(0, " + what + ")", again.of(0, what), want[what]);
        }
        due.is("the spot holds nothing", again.as(2, 0), Due.MISSING);
    }

    private static void full(MothTongue x) {
        for (int page = 0; page < 6; page++) {
            Scenes.page(x, page, 9, 9, 9, 9, 9, 9, 9, 9);
        }
        for (int i = 0; i < 8; i++) {
            Scenes.moth(x, i % 7, i % 6, 9, 9999);
        }
        for (int spot = 0; spot < 10; spot++) {
            x.hold(spot, spot % 8);
        }
        x.seed(Integer.MIN_VALUE);
        x.go(3);
    }
}
