/** Promise 1. */
final class NewObjectTest {
    public static void main(String[] args) {
        Due due = new Due();
        MothTongue x = new MothTongue();
        for (int which = -1; which < 7; which++) {
            due.is("status(" + which + ")", x.status(which), 0);
        }
        for (int page = 0; page < 6; page++) {
            for (int place = 0; place < 8; place++) {
                due.is("reads(" + page + ", " + place + ")", x.reads(page, place), 0);
            }
            due.is("page(" + page + ", 2)", x.page(page, 2), 0);
        }
        due.is("NIGHT", x.count(0), 0);
        due.is("MOTHS", x.count(1), 0);
        due.is("HOLES", x.count(2), 48);
        due.is("FED", x.count(3), 0);
        due.is("SAY", x.count(4), 0);
        due.is("bytes", x.count(5), 0);
        due.is("z", x.count(6), 1);
        due.is("SPOTS", x.count(7), 0);
        due.is("tear()", x.tear(), 0);
        due.is("undo()", x.undo(), Due.NONE);
        for (int s = 0; s < 4; s++) {
            due.is("load(" + s + ")", x.load(s), Due.MISSING);
        }
        for (int spot = 0; spot < 10; spot++) {
            due.is("as(" + spot + ", 0)", x.as(spot, 0), Due.MISSING);
        }
        due.is("wipe()", x.wipe(), 0);
        due.is("text()", x.text(), -1);

        asksOfNothing(due);

        // Two objects have nothing in common.
        MothTongue busy = Due.made(Scenes::busy);
        MothTongue fresh = new MothTongue();
        due.is("words of another object", fresh.count(2), 48);
        due.is("moths of another object", fresh.count(1), 0);
        due.is("tape of another object", fresh.count(5), 0);
        due.is("sheets of another object", fresh.judge(0), Due.MISSING);
        due.is("image of another object", fresh.undo(), Due.NONE);
        due.is("moths of the busy one", busy.count(1), 3);
        due.end();
    }

    /** What the calls answer where there are holes alone, and no moths. */
    private static void asksOfNothing(Due due) {
        for (int page = 0; page < 6; page++) {
            int p = page;
            int other = (page + 1) % 6;
            due.looks("bare", 0, Scenes::nothing, x -> x.bare(p));
            due.looks("when 0", 0, Scenes::nothing, x -> x.when(p, 0));
            due.refuses("when 1", Due.NONE, Scenes::nothing, x -> x.when(p, 1));
            due.looks("alike", 0, Scenes::nothing, x -> x.alike(p, other));
            due.looks("says", 0, Scenes::nothing, x -> x.says(p, 100));
            due.looks("ahead", 0, Scenes::nothing, x -> x.ahead(p, 7, 100));
            due.looks("out", 0, Scenes::nothing, x -> x.out(p, 20));
            due.refuses("swapFor", Due.NONE, Scenes::nothing, x -> x.swapFor(p, 40));
        }
        due.looks("settles", 0, Scenes::nothing, MothTongue::settles);
        due.looks("odds of none, above", 0, Scenes::nothing, x -> x.odds(23, 0));
        due.looks("odds of none, below", 1, Scenes::nothing, x -> x.odds(23, 1));
        due.looks("no draws, above", 1, Scenes::nothing, x -> x.odds(0, 0));
        due.is("go(60)", new MothTongue().go(60), 48);
        due.is("lights(20)", new MothTongue().lights(20), 48);
    }
}
