import java.util.Arrays;
import java.util.Random;

/** Runs of random calls, most of them with numbers that are asked for, answered as the model does. */
final class ModelTest {
    private static final int RUNS = 1500;
    private static final int CALLS = 500;
    private static final String[] TOKENS = {"moth", "larva", "silver", "scholar", "bishop", "old", "grub", "page", "empty",
        "on", "taste", "fed", ";", "0", "1", "5", "6", "9", "10", "999", "1000", "007", "99999999999", "mothon", "on5", "A", "-",
        "" + (char) 233};

    private static final Due due = new Due();
    private final Random random;
    private final MothTongue program = new MothTongue();
    private final Model model = new Model();
    private int left = CALLS;

    private ModelTest(long seed) {
        random = new Random(seed);
    }

    public static void main(String[] args) {
        for (int run = 0; run < RUNS; run++) {
            new ModelTest(run).play(run);
        }
        due.end();
    }

    private void play(int run) {
        // A few moths and pages to begin with make what follows worth asking.
        int moths = random.nextInt(9);
        for (int i = 0; i < moths; i++) {
            ask(run, "moth", random.nextInt(7), random.nextInt(3));
            ask(run, "change", i, 2, 1 + random.nextInt(9));
        }
        for (int i = 0; i < 40; i++) {
            ask(run, "word", random.nextInt(4), random.nextInt(8), random.nextInt(10));
        }
        while (left > 40) {
            if (random.nextInt(12) == 0) {
                writeText(run);
            } else {
                askAny(run);
            }
        }
        for (int which = -1; which < 7; which++) {
            ask(run, "status", which);
        }
    }

    private void askAny(int run) {
        String[] call = Calls.FACE[random.nextInt(Calls.FACE.length)].split(" ");
        if (call[0].equals("lights") && random.nextInt(3) > 0 || call[0].equals("go") && random.nextInt(3) > 0) {
            return;
        }
        int[] a = new int[Integer.parseInt(call[1])];
        for (int i = 0; i < a.length; i++) {
            a[i] = number(call[0], i);
        }
        ask(run, call[0], a);
    }

    private int number(String name, int i) {
        int odd = random.nextInt(60);
        if (odd == 0) {
            return random.nextInt();
        }
        if (odd < 3) {
            int[] edges = {-2, -1, Integer.MIN_VALUE, Integer.MAX_VALUE, 6, 7, 8, 9, 10, 20, 21, 23, 24, 40, 41, 60, 61, 100, 101,
                324, 325, 9999, 10000};
            return edges[random.nextInt(edges.length)];
        }
        switch (name + i) {
            case "word2":
            case "hold0":
            case "as0":
            case "leaves1":
                return random.nextInt(10);
            case "when1":
                return random.nextInt(random.nextBoolean() ? 20 : 325);
            case "change2":
                return random.nextInt(random.nextInt(4) == 0 ? 10000 : 10);
            case "sheet1":
                return new int[] {0, 8, 8, 8, 16, 32}[random.nextInt(6)];
            case "sheet2":
                return random.nextInt(12);
            case "write2":
                return random.nextInt(5) == 0 ? random.nextInt(400) : random.nextInt(11) - 1;
            case "copy4":
                return random.nextInt(4);
            case "go0":
            case "lights0":
                return 1 + random.nextInt(4);
            case "odds0":
                return random.nextInt(24);
            case "odds1":
            case "leaves2":
                return random.nextInt(2);
            case "feed1":
                return 1 + random.nextInt(4);
            case "seed0":
            case "feed0":
                return random.nextInt();
            case "status0":
                return random.nextInt(8) - 1;
            case "fits0":
            case "kinds0":
            case "write0":
            case "load0":
            case "judge0":
            case "sheet0":
            case "copy0":
            case "copy2":
                return random.nextInt(4);
            default:
                return isNights(name, i) ? random.nextInt(random.nextBoolean() ? 5 : 21) : random.nextInt(6);
        }
    }

    private static boolean isNights(String name, int i) {
        return Arrays.asList("ahead2", "says1", "fed1", "put2", "tasteFor2", "kindFor2", "swapFor1", "out1", "fits3")
                .contains(name + i);
    }

    private void writeText(int run) {
        ask(run, "wipe");
        StringBuilder text = new StringBuilder();
        int items = 1 + random.nextInt(4);
        for (int i = 0; i < items; i++) {
            text.append(i > 0 ? ";" : "").append(blanks()).append(item());
        }
        if (random.nextInt(3) == 0) {
            int at = random.nextInt(text.length() + 1);
            text.insert(at, TOKENS[random.nextInt(TOKENS.length)]);
        }
        if (random.nextInt(8) == 0) {
            text.deleteCharAt(random.nextInt(text.length()));
        }
        for (int i = 0; i < text.length(); i += 4) {
            int bytes = 0;
            int n = Math.min(4, text.length() - i);
            for (int k = 0; k < n; k++) {
                bytes = bytes << 8 | text.charAt(i + k);
            }
            ask(run, "feed", bytes, n);
        }
        ask(run, "text");
        ask(run, "count", 1);
        ask(run, "now", 2);
    }

    private String item() {
        switch (random.nextInt(4)) {
            case 0:
                return "empty" + blanks() + random.nextInt(6);
            case 1:
                StringBuilder page = new StringBuilder("page").append(blanks()).append(random.nextInt(6));
                int words = 1 + random.nextInt(8);
                for (int i = 0; i < words; i++) {
                    page.append(' ').append(random.nextInt(10));
                }
                return page.toString();
            default:
                return TOKENS[random.nextInt(7)] + (random.nextBoolean() ? " on" + blanks() + random.nextInt(6) : "")
                        + (random.nextBoolean() ? " taste" + blanks() + (1 + random.nextInt(9)) : "")
                        + (random.nextBoolean() ? " fed" + blanks() + random.nextInt(1000) : "");
        }
    }

    private String blanks() {
        return " ".repeat(random.nextInt(3));
    }

    private void ask(int run, String name, int... a) {
        left--;
        due.is("run " + run + ": " + name + Arrays.toString(a), Calls.on(program, name, a), model.call(name, a));
    }
}
