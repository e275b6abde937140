import java.util.Arrays;
import java.util.HashSet;
import java.util.Set;

/**
 * Every number that a call takes: the least and the most that is taken, and on both sides the first
 * that isn't, which is refused and changes nothing but status(). What the calls answer at their
 * edges is asked in the tests of their promises.
 */
final class EdgesTest {
    private static final Due due = new Due();
    private static final Set<String> led = new HashSet<>();

    public static void main(String[] args) {
        pagesAndMoths();
        changes();
        nights();
        choices();
        past();
        lightsAndTexts();
        spotsAndSheets();
        runsOfSheets();
        images();
        noMoths();
        eightMoths();
        everyNumber();
        due.end();
    }

    /** Three moths and four sheets: of 8 bits with three numbers, 8 with two, 16 with four, 8 with one. */
    private static void laid(MothTongue x) {
        Scenes.busy(x);
        Scenes.sheet(x, 3, 8, 5);
    }

    private static void pagesAndMoths() {
        edges("word", 0, 0, 5, 1, 1, 1);
        edges("word", 1, 0, 7, 1, 1, 1);
        edges("word", 2, 0, 9, 1, 1, 1);
        edges("reads", 0, 0, 5, 1, 1);
        edges("reads", 1, 0, 7, 1, 1);
        edges("page", 0, 0, 5, 1, 1);
        edges("page", 1, 0, 3, 1, 1);
        edges("copied", 0, 0, 5, 1, 2);
        edges("copied", 1, 0, 5, 1, 2);
        edges("moth", 0, 0, 6, 1, 1);
        edges("moth", 1, 0, 5, 1, 1);
        edges("of", 0, 0, 2, 1, 1);
        edges("of", 1, 0, 4, 1, 1);
        edges("leaves", 0, 0, 2, 1, 1, 1);
        edges("leaves", 1, 1, 9, 1, 1, 1);
        edges("leaves", 2, 0, 1, 1, 1, 1);
    }

    private static void changes() {
        edges("change", 0, 0, 2, 1, 1, 1);
        edges("change", 1, 0, 3, 1, 1, 1);
        edges("change", 2, 0, 6, 1, 0, 1);
        edges("change", 2, 0, 5, 1, 1, 1);
        edges("change", 2, 1, 9, 1, 2, 1);
        edges("change", 2, 0, 9999, 1, 3, 1);
    }

    private static void nights() {
        edges("go", 0, 1, 60, 1);
        edges("now", 0, 0, 5, 1);
        edges("ahead", 0, 0, 5, 1, 1, 1);
        edges("ahead", 1, 0, 7, 1, 1, 1);
        edges("ahead", 2, 0, 100, 1, 1, 1);
        edges("says", 0, 0, 5, 1, 1);
        edges("says", 1, 0, 100, 1, 1);
        edges("fed", 0, 0, 2, 1, 1);
        edges("fed", 1, 0, 100, 1, 1);
        edges("bare", 0, 0, 5, 1);
        edges("when", 0, 0, 5, 1, 1);
        edges("when", 1, 0, 324, 1, 1);
        edges("alike", 0, 0, 5, 1, 2);
        edges("alike", 1, 0, 5, 1, 2);
        for (int page = 0; page < 6; page++) {
            refused(Due.BEYOND, EdgesTest::laid, "alike", page, page);
        }
    }

    private static void choices() {
        for (String name : new String[] {"put", "tasteFor", "kindFor"}) {
            edges(name, 0, 0, 2, 1, 1, 1);
            edges(name, 1, 0, 5, 1, 1, 1);
            edges(name, 2, 0, 40, 1, 1, 1);
        }
        edges("swapFor", 0, 0, 5, 1, 1);
        edges("swapFor", 1, 0, 40, 1, 1);
        edges("out", 0, 0, 5, 1, 1);
        edges("out", 1, 0, 20, 1, 1);
    }

    private static void past() {
        edges("fits", 0, 0, 3, 1, 1, 1, 1);
        edges("fits", 1, 0, 5, 1, 1, 1, 1);
        edges("fits", 2, 0, 7, 1, 1, 1, 1);
        edges("fits", 3, 0, 20, 1, 1, 1, 1);
        edges("kinds", 0, 0, 3, 1, 1);
        edges("kinds", 1, 0, 2, 1, 1);
    }

    private static void lightsAndTexts() {
        edges("lights", 0, 1, 20, 1);
        edges("odds", 0, 0, 23, 1, 1);
        edges("odds", 1, 0, 1, 1, 1);
        edges("feed", 1, 1, 4, 'x', 1);
    }

    private static void spotsAndSheets() {
        edges("hold", 0, 0, 9, 1, 1);
        edges("hold", 1, -1, 2, 1, 1);
        edges("as", 0, 0, 9, 1, 0);
        edges("as", 1, 0, 6, 3, 0);
        edges("sheet", 0, 0, 3, 1, 8, 1);
        for (int bits : new int[] {8, 16, 32}) {
            bitsAround(bits);
            taken(EdgesTest::laid, "sheet", 0, bits, 0);
            taken(EdgesTest::laid, "sheet", 0, bits, 40);
            refused(Due.BEYOND, EdgesTest::laid, "sheet", 0, bits, 41);
            refused(Due.BEYOND, EdgesTest::laid, "sheet", 0, bits, Integer.MAX_VALUE);
            refused(Due.SIZE, EdgesTest::laid, "sheet", 0, bits, -1);
            refused(Due.SIZE, EdgesTest::laid, "sheet", 0, bits, Integer.MIN_VALUE);
        }
        bitsAround(0);
        taken(EdgesTest::laid, "sheet", 0, 0, 0);
        taken(EdgesTest::laid, "sheet", 0, 0, 40);
        refused(Due.SIZE, EdgesTest::laid, "sheet", 0, 0, -1);
        led.add("sheet 2");
        edges("load", 0, 0, 3, 1);
        edges("judge", 0, 0, 3, 1);
    }

    private static void bitsAround(int bits) {
        taken(EdgesTest::laid, "sheet", 0, bits, 1);
        refused(Due.BEYOND, EdgesTest::laid, "sheet", 0, bits - 1, 1);
        refused(Due.BEYOND, EdgesTest::laid, "sheet", 0, bits + 1, 1);
        refused(Due.BEYOND, EdgesTest::laid, "sheet", 0, -bits - 8, 1);
        led.add("sheet 1");
    }

    private static void runsOfSheets() {
        edges("write", 0, 0, 3, 1, 0, 1);
        edges("write", 1, 0, 2, 0, 1, 1);
        edges("write", 1, 0, 1, 1, 1, 1);
        edges("write", 1, 0, 3, 2, 1, 1);
        edges("write", 1, 0, 0, 3, 0, 1);
        edges("copy", 0, 0, 3, 1, 0, 1, 0, 1);
        edges("copy", 2, 0, 3, 1, 0, 1, 0, 1);
        // One number of sheet 0 (it has three) to sheet 1 (two), and back.
        edges("copy", 1, 0, 2, 0, 1, 1, 1, 1);
        edges("copy", 3, 0, 1, 0, 1, 1, 1, 1);
        edges("copy", 4, 0, 2, 0, 0, 1, 0, 1);
        edges("copy", 4, 0, 1, 0, 0, 1, 1, 1);
        edges("copy", 4, 0, 1, 1, 1, 0, 0, 1);
        // No numbers may begin right behind the last one.
        edges("copy", 1, 0, 3, 0, 1, 1, 1, 0);
        edges("copy", 3, 0, 2, 0, 1, 1, 1, 0);
        Due.Scene empty = x -> {
            laid(x);
            x.sheet(0, 8, 0);
        };
        refused(Due.BEYOND, empty, "write", 0, 0, 1);
        taken(empty, "copy", 0, 0, 1, 2, 0);
        refused(Due.BEYOND, empty, "copy", 0, 0, 1, 0, 1);
        refused(Due.BEYOND, empty, "copy", 1, 0, 0, 0, 1);
        refused(Due.BEYOND, empty, "copy", 0, 1, 1, 0, 0);
        Due.Scene full = x -> {
            laid(x);
            x.sheet(0, 8, 40);
        };
        taken(full, "write", 0, 39, 1);
        refused(Due.BEYOND, full, "write", 0, 40, 1);
        taken(full, "copy", 0, 0, 0, 0, 40);
        refused(Due.BEYOND, full, "copy", 0, 0, 0, 0, 41);
        refused(Due.BEYOND, full, "copy", 0, 1, 0, 0, 40);
        refused(Due.BEYOND, full, "copy", 0, 0, 0, 1, 40);
    }

    private static void images() {
        edges("count", 0, 0, 7, 1);
        edges("status", 0, -1, 6, 1);
    }

    /** Where there are no moths there is none of number 0. */
    private static void noMoths() {
        Due.Scene bare = x -> Scenes.sheet(x, 0, 8, 1);
        for (int moth : new int[] {-1, 0, 7}) {
            refused(Due.BEYOND, bare, "of", moth, 0);
            refused(Due.BEYOND, bare, "change", moth, 0, 0);
            refused(Due.BEYOND, bare, "leaves", moth, 1, 0);
            refused(Due.BEYOND, bare, "fed", moth, 0);
            refused(Due.BEYOND, bare, "put", moth, 0, 0);
            refused(Due.BEYOND, bare, "tasteFor", moth, 0, 0);
            refused(Due.BEYOND, bare, "kindFor", moth, 0, 0);
            refused(Due.BEYOND, bare, "kinds", 0, moth);
        }
        refused(Due.BEYOND, bare, "hold", 0, 0);
        refused(Due.BEYOND, bare, "hold", 0, -2);
        taken(bare, "hold", 0, -1);
    }

    private static void eightMoths() {
        Due.Scene crowded = Scenes::crowded;
        taken(crowded, "of", 7, 0);
        taken(crowded, "change", 7, 0, 0);
        taken(crowded, "leaves", 7, 1, 0);
        taken(crowded, "fed", 7, 0);
        taken(crowded, "put", 7, 0, 0);
        taken(crowded, "tasteFor", 7, 0, 0);
        taken(crowded, "kindFor", 7, 0, 0);
        taken(crowded, "kinds", 0, 7);
        taken(crowded, "hold", 0, 7);
        refused(Due.BEYOND, crowded, "of", 8, 0);
        refused(Due.BEYOND, crowded, "change", 8, 0, 0);
        refused(Due.BEYOND, crowded, "leaves", 8, 1, 0);
        refused(Due.BEYOND, crowded, "fed", 8, 0);
        refused(Due.BEYOND, crowded, "put", 8, 0, 0);
        refused(Due.BEYOND, crowded, "tasteFor", 8, 0, 0);
        refused(Due.BEYOND, crowded, "kindFor", 8, 0, 0);
        refused(Due.BEYOND, crowded, "kinds", 0, 8);
        refused(Due.BEYOND, crowded, "hold", 0, 8);
    }

    /** Bytes, z and what is written may be any number; all others have been led to their edges. */
    private static void everyNumber() {
        led.addAll(Set.of("feed 0", "seed 0", "write 2"));
        int[] any = {Integer.MIN_VALUE, -1, 0, Integer.MAX_VALUE};
        for (int v : any) {
            taken(EdgesTest::laid, "feed", v, 4);
            taken(EdgesTest::laid, "seed", v);
            taken(EdgesTest::laid, "write", 0, 0, v);
        }
        for (String call : Calls.FACE) {
            String[] parts = call.split(" ");
            for (int i = 0; i < Integer.parseInt(parts[1]); i++) {
                due.isTrue("led to its edges: " + parts[0] + ", number " + i, led.contains(parts[0] + " " + i));
            }
        }
    }

    private static void edges(String name, int which, int least, int most, int... ordinary) {
        led.add(name + " " + which);
        taken(EdgesTest::laid, name, with(ordinary, which, least));
        taken(EdgesTest::laid, name, with(ordinary, which, most));
        for (int v : new int[] {least - 1, most + 1, Integer.MIN_VALUE, Integer.MAX_VALUE}) {
            refused(Due.BEYOND, EdgesTest::laid, name, with(ordinary, which, v));
        }
    }

    private static int[] with(int[] ordinary, int which, int v) {
        int[] numbers = ordinary.clone();
        numbers[which] = v;
        return numbers;
    }

    /** The call may find something, but not that a number of it is too small or too large. */
    private static void taken(Due.Scene scene, String name, int... numbers) {
        MothTongue x = Due.made(scene);
        int beyond = x.status(0);
        int size = x.status(6);
        long answer = Calls.on(x, name, numbers);
        String told = name + Arrays.toString(numbers);
        due.isTrue(told + " is taken", answer != Due.BEYOND && answer != Due.SIZE);
        due.is("BEYOND behind " + told, x.status(0), beyond);
        due.is("SIZE behind " + told, x.status(6), size);
    }

    private static void refused(int finding, Due.Scene scene, String name, int... numbers) {
        due.refuses(name + Arrays.toString(numbers), finding, scene, x -> Calls.on(x, name, numbers));
    }
}
