/** Every call of the face, by its name and a row of numbers. */
final class Calls {
    /** Each name with how many numbers it takes. */
    static final String[] FACE = {"word 3", "reads 2", "page 2", "copied 2", "moth 2", "of 2", "change 3", "leaves 3",
        "go 1", "now 1", "ahead 3", "says 2", "fed 2", "bare 1", "when 2", "settles 0", "alike 2", "put 3", "tasteFor 3",
        "kindFor 3", "swapFor 2", "out 2", "fits 4", "kinds 2", "lights 1", "odds 2", "seed 1", "feed 2", "wipe 0",
        "text 0", "hold 2", "as 2", "sheet 3", "write 3", "copy 5", "load 1", "judge 1", "image 0", "undo 0", "tear 0",
        "count 1", "status 1"};

    private Calls() {
    }

    static long on(MothTongue x, String name, int... a) {
        switch (name) {
            case "word": return x.word(a[0], a[1], a[2]);
            case "reads": return x.reads(a[0], a[1]);
            case "page": return x.page(a[0], a[1]);
            case "copied": return x.copied(a[0], a[1]);
            case "moth": return x.moth(a[0], a[1]);
            case "of": return x.of(a[0], a[1]);
            case "change": return x.change(a[0], a[1], a[2]);
            case "leaves": return x.leaves(a[0], a[1], a[2]);
            case "go": return x.go(a[0]);
            case "now": return x.now(a[0]);
            case "ahead": return x.ahead(a[0], a[1], a[2]);
            case "says": return x.says(a[0], a[1]);
            case "fed": return x.fed(a[0], a[1]);
            case "bare": return x.bare(a[0]);
            case "when": return x.when(a[0], a[1]);
            case "settles": return x.settles();
            case "alike": return x.alike(a[0], a[1]);
            case "put": return x.put(a[0], a[1], a[2]);
            case "tasteFor": return x.tasteFor(a[0], a[1], a[2]);
            case "kindFor": return x.kindFor(a[0], a[1], a[2]);
            case "swapFor": return x.swapFor(a[0], a[1]);
            case "out": return x.out(a[0], a[1]);
            case "fits": return x.fits(a[0], a[1], a[2], a[3]);
            case "kinds": return x.kinds(a[0], a[1]);
            case "lights": return x.lights(a[0]);
            case "odds": return x.odds(a[0], a[1]);
            case "seed": return x.seed(a[0]);
            case "feed": return x.feed(a[0], a[1]);
            case "wipe": return x.wipe();
            case "text": return x.text();
            case "hold": return x.hold(a[0], a[1]);
            case "as": return x.as(a[0], a[1]);
            case "sheet": return x.sheet(a[0], a[1], a[2]);
            case "write": return x.write(a[0], a[1], a[2]);
            case "copy": return x.copy(a[0], a[1], a[2], a[3], a[4]);
            case "load": return x.load(a[0]);
            case "judge": return x.judge(a[0]);
            case "image": return x.image();
            case "undo": return x.undo();
            case "tear": return x.tear();
            case "count": return x.count(a[0]);
            case "status": return x.status(a[0]);
            default: throw new IllegalStateException(name);
        }
    }
}
