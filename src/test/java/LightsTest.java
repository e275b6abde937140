import java.util.Arrays;

/** Promises 26 to 28. */
final class LightsTest {
    private static final Due due = new Due();

    public static void main(String[] args) {
        knownDraws();
        wrappingDraws();
        noSuchMoth();
        lights();
        odds();
        seed();
        due.end();
    }

    /** z 1 gives 4310654, of which 8 leave 6, and 9862832, of which 6 leave 2. */
    private static void knownDraws() {
        MothTongue x = new MothTongue();
        for (int i = 0; i < 8; i++) {
            x.moth(1, 5);
        }
        x.word(2, 0, 4);
        due.is("lights(1)", x.lights(1), 47);
        due.is("of(5, 1)", x.of(5, 1), 5);
        due.is("of(6, 1)", x.of(6, 1), 2);
        due.is("of(7, 1)", x.of(7, 1), 5);
        due.is("it bites there the same night", x.reads(2, 0), 3);
        due.is("z", x.count(6), (int) 2524885223L);
        due.is("NIGHT", x.now(0), 1);
    }

    private static void lights() {
        for (int seed : new int[] {1, 0, -1, 12345, Integer.MIN_VALUE, Integer.MAX_VALUE}) {
            for (int moths = 0; moths <= 8; moths += 4) {
                lights(seed, moths, 20);
                lights(seed, moths, 1);
            }
        }
        for (int n : new int[] {0, 21, -1, Integer.MIN_VALUE, Integer.MAX_VALUE}) {
            due.refuses("lights(" + n + ")", Due.BEYOND, Scenes::busy, x -> x.lights(n));
        }
    }

    /** Two drawers: in one lights are left on, in the other the moths are moved by hand. */
    private static void lights(int seed, int moths, int n) {
        MothTongue lit = new MothTongue();
        MothTongue moved = new MothTongue();
        for (MothTongue x : new MothTongue[] {lit, moved}) {
            for (int page = 0; page < 6; page++) {
                Scenes.page(x, page, 9, 8, 7, 6, 5, 4, 3, 2);
            }
            for (int i = 0; i < moths; i++) {
                Scenes.moth(x, (i + 1) % 7, 0, 1 + i, i);
            }
        }
        lit.seed(seed);
        int z = seed;
        int holes = 0;
        for (int i = 0; i < n; i++) {
            z = z * 1103515245 + 12345;
            int moth = (z >>> 8) % 8;
            z = z * 1103515245 + 12345;
            if (moth < moths) {
                moved.change(moth, 1, (z >>> 8) % 6);
            }
            holes = moved.go(1);
        }
        moved.seed(z);
        String told = "lights(" + n + ") of seed " + seed + " and " + moths + " moths";
        due.is(told, lit.lights(n), holes);
        due.isTrue(told + " leaves all as moved by hand", Observed.of(lit).equals(Observed.of(moved)));
    }

    private static void odds() {
        int[][] lowest = {{0, 1}, {1, 6}, {1, 3}, {1, 2}, {2, 3}, {5, 6}, {1, 1}};
        for (int written = 0; written <= 6; written++) {
            for (int n : new int[] {0, 1, 2, 22, 23}) {
                for (int what = 0; what < 2; what++) {
                    int pages = written;
                    int w = what;
                    long want = java.math.BigInteger.valueOf(lowest[written][what]).pow(n).longValueExact();
                    due.looks("odds(" + n + ", " + what + ") with " + written + " pages", want, x -> {
                        for (int page = 0; page < pages; page++) {
                            x.word(5 - page, page, 1);
                        }
                    }, x -> x.odds(n, w));
                }
            }
        }
        MothTongue five = new MothTongue();
        for (int page = 0; page < 5; page++) {
            five.word(page, 7, 9);
        }
        due.is("5 to the 23rd", five.odds(23, 0), 11920928955078125L);
        due.is("6 to the 23rd", five.odds(23, 1), 789730223053602816L);
        int[][] wrong = {{-1, 0}, {24, 0}, {0, -1}, {0, 2}, {Integer.MAX_VALUE, 0}, {Integer.MIN_VALUE, 0},
            {0, Integer.MAX_VALUE}, {24, 2}};
        for (int[] w : wrong) {
            due.refuses("odds" + Arrays.toString(w), Due.BEYOND, Scenes::busy, x -> x.odds(w[0], w[1]));
        }
    }

    private static void seed() {
        MothTongue x = new MothTongue();
        due.is("seed(5)", x.seed(5), 1);
        due.is("count(6)", x.count(6), 5);
        due.is("seed(MIN)", x.seed(Integer.MIN_VALUE), 5);
        due.is("seed(BEYOND)", x.seed(Due.BEYOND), Integer.MIN_VALUE);
        due.is("what looks like a finding is none", x.seed(0), Due.BEYOND);
        due.is("status(-1)", x.status(-1), 0);
        due.is("seed(0)", x.seed(0), 0);
    }

    /** z is an int that wraps around, and what is drawn of it is never below 0. */
    private static void wrappingDraws() {
        for (int seed : new int[] {0, 1, -1, 2, 77, 305419896, -305419896, Integer.MIN_VALUE, Integer.MAX_VALUE}) {
            MothTongue x = new MothTongue();
            for (int i = 0; i < 8; i++) {
                x.moth(0, 0);
            }
            x.seed(seed);
            x.lights(1);
            long first = next(seed & 0xffffffffL);
            long second = next(first);
            int moth = (int) ((first >> 8) % 8);
            int page = (int) ((second >> 8) % 6);
            String told = "with z " + seed;
            due.is("z behind two draws " + told, x.count(6), (int) second);
            for (int i = 0; i < 8; i++) {
                due.is("page of moth " + i + " " + told, x.of(i, 1), i == moth ? page : 0);
            }
        }
    }

    /** z as a number of 32 bits without a sign. */
    private static long next(long z) {
        return java.math.BigInteger.valueOf(z).multiply(java.math.BigInteger.valueOf(1103515245L))
                .add(java.math.BigInteger.valueOf(12345)).mod(java.math.BigInteger.ONE.shiftLeft(32)).longValueExact();
    }

    /** z 1 draws moth 6: seven moths have it, six haven't, and the draws and the night count all the same. */
    private static void noSuchMoth() {
        for (int moths = 5; moths <= 8; moths++) {
            MothTongue x = new MothTongue();
            for (int i = 0; i < moths; i++) {
                x.moth(1, 5);
            }
            x.word(2, 0, 4);
            x.word(5, 7, 9);
            due.is("lights(1) with " + moths + " moths", x.lights(1), 46);
            due.is("moths that left with " + moths, x.page(2, 2), moths > 6 ? 1 << 6 : 0);
            due.is("word of page 2 with " + moths, x.reads(2, 0), moths > 6 ? 3 : 4);
            due.is("word of page 5 with " + moths, x.reads(5, 7), moths > 6 ? 9 - moths + 1 : 9 - moths);
            due.is("z with " + moths, x.count(6), (int) 2524885223L);
            due.is("NIGHT with " + moths, x.now(0), 1);
            if (moths < 8) {
                due.is("the next moth", x.moth(0, 3), moths);
                due.is("the draws had nothing to do with it", x.of(moths, 1), 3);
            }
        }
    }
}
