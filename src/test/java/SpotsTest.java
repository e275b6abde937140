import java.util.Arrays;

/** Promises 32 and 33. */
final class SpotsTest {
    private static final Due due = new Due();

    public static void main(String[] args) {
        hold();
        everySpot();
        as();
        due.end();
    }

    private static void hold() {
        MothTongue x = new MothTongue();
        x.moth(0, 0);
        x.moth(1, 0);
        due.is("hold(0, 1)", x.hold(0, 1), 1);
        due.is("hold(9, 0)", x.hold(9, 0), 1);
        due.is("hold(5, 1)", x.hold(5, 1), 1);
        due.is("count(7)", x.count(7), 3);
        due.is("as(0, 0)", x.as(0, 0), 1);
        due.is("as(9, 0)", x.as(9, 0), 0);
        due.is("as(5, 0)", x.as(5, 0), 1);
        due.is("hold(0, 0)", x.hold(0, 0), 1);
        due.is("as(0, 0)", x.as(0, 0), 0);
        due.is("hold(0, -1)", x.hold(0, -1), 1);
        due.is("count(7)", x.count(7), 2);
        due.is("as(0, 0)", x.as(0, 0), Due.MISSING);
        due.is("hold(0, -1) again", x.hold(0, -1), 1);
        int[][] wrong = {{-1, 0}, {10, 0}, {0, -2}, {0, 3}, {0, 8}, {10, -1}, {Integer.MIN_VALUE, 0}, {0, Integer.MAX_VALUE},
            {0, Integer.MIN_VALUE}};
        for (int[] w : wrong) {
            due.refuses("hold" + Arrays.toString(w), Due.BEYOND, Scenes::busy, y -> y.hold(w[0], w[1]));
        }
    }

    private static void as() {
        // By each kind, the kinds as which it can be taken.
        int[] sets = {1, 1 + 2, 1 + 4, 1 + 4 + 8, 1 + 4 + 8 + 16, 1 + 32, 1 + 2 + 64};
        for (int kind = 0; kind < 7; kind++) {
            int k = kind;
            Due.Scene scene = x -> {
                x.moth(0, 0);
                x.moth(k, 3);
                x.hold(7, 1);
            };
            for (int as = 0; as < 7; as++) {
                int a = as;
                String told = "kind " + kind + " as " + as;
                if ((sets[kind] >> as & 1) == 1) {
                    due.looks(told, 1, scene, x -> x.as(7, a));
                } else {
                    due.refuses(told, Due.KIND, scene, x -> x.as(7, a));
                }
            }
        }
        MothTongue x = new MothTongue();
        x.moth(0, 0);
        x.hold(2, 0);
        x.change(0, 0, 6);
        due.is("a moth that became a grub, as a larva", x.as(2, 1), 0);
        for (int kind = 0; kind < 7; kind++) {
            int k = kind;
            due.refuses("as(0, " + kind + ")", Due.MISSING, Scenes::busy, y -> y.as(0, k));
        }
        int[][] wrong = {{-1, 0}, {10, 0}, {0, -1}, {0, 7}, {3, -1}, {3, 7}, {Integer.MAX_VALUE, 0}, {3, Integer.MIN_VALUE}};
        for (int[] w : wrong) {
            due.refuses("as" + Arrays.toString(w), Due.BEYOND, Scenes::busy, y -> y.as(w[0], w[1]));
        }
    }

    private static void everySpot() {
        MothTongue x = new MothTongue();
        for (int i = 0; i < 8; i++) {
            x.moth(0, 0);
        }
        for (int spot = 0; spot < 10; spot++) {
            due.is("hold(" + spot + ", ..)", x.hold(spot, 7 - spot % 8), 1);
            due.is("held", x.count(7), spot + 1);
        }
        for (int spot = 0; spot < 10; spot++) {
            due.is("as(" + spot + ", 0)", x.as(spot, 0), 7 - spot % 8);
        }
        for (int spot = 0; spot < 10; spot++) {
            due.is("hold(" + spot + ", -1)", x.hold(spot, -1), 1);
            due.is("held", x.count(7), 9 - spot);
            due.is("as(" + spot + ", 0)", x.as(spot, 0), Due.MISSING);
        }
    }
}
