import java.math.BigInteger;
import java.util.ArrayList;
import java.util.Arrays;
import java.util.List;
import java.util.function.Predicate;
import java.util.function.ToIntFunction;
import java.util.regex.Matcher;
import java.util.regex.Pattern;
import java.util.stream.IntStream;

/** The document once more, written another way and without a thought for what it costs. */
final class Model {
    private static final String[] NAMES = {"moth", "larva", "silver", "scholar", "bishop", "old", "grub"};

    /** A finding on its way to the caller. */
    private static final class Found extends RuntimeException {
        private static final long serialVersionUID = 1;
        final int number;

        Found(int number) {
            super(null, null, false, false);
            this.number = number;
        }
    }

    static class Plain {
        int bites(int[] words, int taste, int fed) {
            return first(words, w -> w == taste);
        }

        int leaves(int w) {
            return 0;
        }

        int gains(int w) {
            return w;
        }

        static int first(int[] words, Predicate<Integer> p) {
            return IntStream.range(0, 8).filter(i -> words[i] != 0 && p.test(words[i])).findFirst().orElse(-1);
        }
    }

    static class Larva extends Plain {
        @Override
        int bites(int[] words, int taste, int fed) {
            return first(words, w -> true);
        }

        @Override
        int leaves(int w) {
            return w - 1;
        }

        @Override
        int gains(int w) {
            return 1;
        }
    }

    static class Grub extends Larva {
        @Override
        int bites(int[] words, int taste, int fed) {
            return IntStream.range(0, 8).filter(i -> words[i] != 0).max().orElse(-1);
        }

        @Override
        int leaves(int w) {
            return Math.max(0, super.leaves(w) - 1);
        }

        @Override
        int gains(int w) {
            return super.gains(w) + 1;
        }
    }

    static class Silver extends Plain {
        @Override
        int bites(int[] words, int taste, int fed) {
            return first(words, w -> (w + taste) % 2 == 0);
        }

        @Override
        int leaves(int w) {
            return 10 - w;
        }

        @Override
        int gains(int w) {
            return super.gains(w) / 2;
        }
    }

    static class Scholar extends Silver {
        @Override
        int bites(int[] words, int taste, int fed) {
            int place = super.bites(words, taste, fed);
            return place >= 0 && words[place] < taste ? -1 : place;
        }

        @Override
        int leaves(int w) {
            return Math.min(9, super.leaves(w) + 1);
        }

        @Override
        int gains(int w) {
            return super.gains(w) + 1;
        }
    }

    static class Bishop extends Scholar {
        @Override
        int bites(int[] words, int taste, int fed) {
            int place = super.bites(words, taste, fed);
            return place >= 0 ? place : new Plain().bites(words, taste, fed);
        }

        @Override
        int leaves(int w) {
            return super.leaves(w) / 2;
        }
    }

    static class Old extends Plain {
        @Override
        int bites(int[] words, int taste, int fed) {
            return words[fed % 8] == 0 ? -1 : fed % 8;
        }

        @Override
        int gains(int w) {
            return super.gains(w) + 1;
        }
    }

    private static final List<Plain> KINDS =
            List.of(new Plain(), new Larva(), new Silver(), new Scholar(), new Bishop(), new Old(), new Grub());

    static final class State {
        int[][] pages = new int[6][8];
        List<int[]> moths = new ArrayList<>();
        int[] spots = IntStream.range(0, 10).map(i -> -1).toArray();
        int night = 0;
        int z = 1;

        State twin() {
            State t = new State();
            t.pages = Arrays.stream(pages).map(int[]::clone).toArray(int[][]::new);
            moths.forEach(m -> t.moths.add(m.clone()));
            t.spots = spots.clone();
            t.night = night;
            t.z = z;
            return t;
        }

        int place(int moth) {
            int[] m = moths.get(moth);
            return KINDS.get(m[0]).bites(pages[m[1]], m[2], m[3]);
        }

        State night(int without) {
            for (int i = 0; i < moths.size(); i++) {
                int place = place(i);
                if (place >= 0 && (without >> i) % 2 == 0) {
                    int[] m = moths.get(i);
                    int w = pages[m[1]][place];
                    pages[m[1]][place] = KINDS.get(m[0]).leaves(w);
                    m[3] = Math.min(9999, m[3] + KINDS.get(m[0]).gains(w));
                }
            }
            night = Math.min(99999, night + 1);
            return this;
        }

        State behind(int n) {
            State t = twin();
            for (int i = 0; i < n; i++) {
                t.night(0);
            }
            return t;
        }

        int says(int page) {
            return IntStream.range(0, 8).map(i -> pages[page][i] * (i + 1)).sum();
        }

        int holes() {
            return (int) Arrays.stream(pages).flatMapToInt(Arrays::stream).filter(w -> w == 0).count();
        }

        boolean bare(int page) {
            return Arrays.stream(pages[page]).allMatch(w -> w == 0);
        }

        int draw() {
            z = z * 1103515245 + 12345;
            return z >>> 8;
        }
    }

    State state = new State();
    private State kept = null;
    private final StringBuilder tape = new StringBuilder();
    private final int[][] sheets = new int[4][];
    private final int[] bits = new int[4];
    private final int[] counts = new int[7];

    long call(String name, int... a) {
        try {
            return answer(name, a);
        } catch (Found f) {
            counts[Due.BEYOND - f.number]++;
            return f.number;
        }
    }

    private static void need(boolean holds, int otherwise) {
        if (!holds) {
            throw new Found(otherwise);
        }
    }

    private static void in(int v, int least, int most) {
        need(v >= least && v <= most, Due.BEYOND);
    }

    private void mothIn(int moth) {
        in(moth, 0, state.moths.size() - 1);
    }

    private void sheetIn(int s) {
        in(s, 0, 3);
        need(sheets[s] != null, Due.MISSING);
    }

    private static int set(int below, Predicate<Integer> p) {
        return IntStream.range(0, below).filter(p::test).map(i -> 1 << i).sum();
    }

    private long answer(String name, int[] a) {
        switch (name) {
            case "word":
            case "reads":
                in(a[0], 0, 5);
                in(a[1], 0, 7);
                int was = state.pages[a[0]][a[1]];
                if (a.length == 3) {
                    in(a[2], 0, 9);
                    state.pages[a[0]][a[1]] = a[2];
                }
                return was;
            case "page":
                in(a[0], 0, 5);
                in(a[1], 0, 3);
                return new int[] {
                    state.says(a[0]),
                    (int) Arrays.stream(state.pages[a[0]]).filter(w -> w == 0).count(),
                    set(state.moths.size(), i -> state.moths.get(i)[1] == a[0]),
                    set(8, i -> state.pages[a[0]][i] > 0)}[a[1]];
            case "copied":
                in(a[0], 0, 5);
                in(a[1], 0, 5);
                int other = Integer.bitCount(set(8, i -> state.pages[a[0]][i] != state.pages[a[1]][i]));
                state.pages[a[1]] = state.pages[a[0]].clone();
                return other;
            case "moth":
                in(a[0], 0, 6);
                in(a[1], 0, 5);
                need(state.moths.size() < 8, Due.FULL);
                state.moths.add(new int[] {a[0], a[1], 1, 0});
                return state.moths.size() - 1;
            case "of":
                mothIn(a[0]);
                in(a[1], 0, 4);
                return a[1] == 4 ? state.place(a[0]) : state.moths.get(a[0])[a[1]];
            case "change":
                mothIn(a[0]);
                in(a[1], 0, 3);
                in(a[2], a[1] == 2 ? 1 : 0, new int[] {6, 5, 9, 9999}[a[1]]);
                int had = state.moths.get(a[0])[a[1]];
                state.moths.get(a[0])[a[1]] = a[2];
                return had;
            case "leaves":
                mothIn(a[0]);
                in(a[1], 1, 9);
                in(a[2], 0, 1);
                Plain kind = KINDS.get(state.moths.get(a[0])[0]);
                return a[2] == 0 ? kind.leaves(a[1]) : kind.gains(a[1]);
            case "go":
                in(a[0], 1, 60);
                need(state.night + a[0] <= 99999, Due.STATE);
                state = state.behind(a[0]);
                return state.holes();
            case "now":
                in(a[0], 0, 5);
                return now(a[0]);
            default:
                return later(name, a);
        }
    }

    private int now(int what) {
        return new int[] {
            state.night,
            state.holes(),
            IntStream.range(0, 6).map(state::says).sum(),
            state.moths.stream().mapToInt(m -> m[3]).sum(),
            set(state.moths.size(), i -> state.place(i) < 0),
            set(6, state::bare)}[what];
    }

    private long later(String name, int[] a) {
        switch (name) {
            case "ahead":
                in(a[0], 0, 5);
                in(a[1], 0, 7);
                in(a[2], 0, 100);
                return state.behind(a[2]).pages[a[0]][a[1]];
            case "says":
                in(a[0], 0, 5);
                in(a[1], 0, 100);
                return state.behind(a[1]).says(a[0]);
            case "fed":
                mothIn(a[0]);
                in(a[1], 0, 100);
                return state.behind(a[1]).moths.get(a[0])[3];
            case "bare":
                in(a[0], 0, 5);
                return fewest(s -> s.bare(a[0]));
            case "when":
                in(a[0], 0, 5);
                in(a[1], 0, 324);
                return fewest(s -> s.says(a[0]) == a[1]);
            case "settles":
                return fewest(s -> Arrays.deepEquals(s.pages, s.behind(1).pages));
            case "alike":
                in(a[0], 0, 5);
                in(a[1], 0, 5);
                need(a[0] != a[1], Due.BEYOND);
                return fewest(s -> Arrays.equals(s.pages[a[0]], s.pages[a[1]]));
            default:
                return choice(name, a);
        }
    }

    private int fewest(Predicate<State> p) {
        State s = state.twin();
        for (int n = 0; n <= 200; n++) {
            if (p.test(s)) {
                return n;
            }
            s.night(0);
        }
        throw new Found(Due.NONE);
    }

    private long choice(String name, int[] a) {
        switch (name) {
            case "put":
                return best(a, 1, 0, 5);
            case "tasteFor":
                return best(a, 2, 1, 9);
            case "kindFor":
                return best(a, 0, 0, 6);
            case "swapFor":
                in(a[0], 0, 5);
                in(a[1], 0, 40);
                need(state.moths.size() > 1, Due.NONE);
                return most(IntStream.range(0, 64)
                        .filter(p -> p / 8 < p % 8 && p % 8 < state.moths.size()), p -> {
                            State s = state.twin();
                            s.moths.get(p / 8)[1] = state.moths.get(p % 8)[1];
                            s.moths.get(p % 8)[1] = state.moths.get(p / 8)[1];
                            return s.behind(a[1]).says(a[0]);
                        });
            case "out":
                in(a[0], 0, 5);
                in(a[1], 0, 20);
                return most(IntStream.range(0, 1 << state.moths.size()).filter(set -> {
                    State s = state.twin();
                    for (int n = 0; n < a[1]; n++) {
                        s.night(set);
                    }
                    return Arrays.equals(s.pages[a[0]], state.pages[a[0]]);
                }), set -> 8 - Integer.bitCount(set));
            default:
                return past(name, a);
        }
    }

    private int best(int[] a, int what, int from, int to) {
        mothIn(a[0]);
        in(a[1], 0, 5);
        in(a[2], 0, 40);
        return most(IntStream.rangeClosed(from, to), v -> {
            State s = state.twin();
            s.moths.get(a[0])[what] = v;
            return s.behind(a[2]).says(a[1]);
        });
    }

    private static int most(IntStream candidates, ToIntFunction<Integer> worth) {
        int best = -1;
        int bestWorth = Integer.MIN_VALUE;
        for (int c : candidates.sorted().toArray()) {
            int w = worth.applyAsInt(c);
            if (w > bestWorth) {
                best = c;
                bestWorth = w;
            }
        }
        return best;
    }

    private long past(String name, int[] a) {
        switch (name) {
            case "fits":
                sheetIn(a[0]);
                in(a[1], 0, 5);
                in(a[2], 0, 7);
                in(a[3], 0, 20);
                return set(10, w -> {
                    State s = state.twin();
                    s.pages[a[1]][a[2]] = w;
                    int[] words = s.behind(a[3]).pages[a[1]];
                    int[] told = Arrays.copyOf(sheets[a[0]], Math.min(8, sheets[a[0]].length));
                    return IntStream.range(0, told.length).allMatch(i -> told[i] == -1 || told[i] == words[i]);
                });
            case "kinds":
                sheetIn(a[0]);
                mothIn(a[1]);
                return set(7, k -> {
                    State s = state.twin();
                    s.moths.get(a[1])[0] = k;
                    int[] told = sheets[a[0]];
                    return IntStream.range(0, told.length)
                            .allMatch(i -> told[i] == -1 || told[i] == s.behind(i).moths.get(a[1])[3]);
                });
            case "lights":
                in(a[0], 1, 20);
                need(state.night + a[0] <= 99999, Due.STATE);
                for (int i = 0; i < a[0]; i++) {
                    int moth = state.draw() % 8;
                    int page = state.draw() % 6;
                    if (moth < state.moths.size()) {
                        state.moths.get(moth)[1] = page;
                    }
                    state.night(0);
                }
                return state.holes();
            case "odds":
                in(a[0], 0, 23);
                in(a[1], 0, 1);
                BigInteger above = BigInteger.valueOf(6 - Integer.bitCount(now(5))).pow(a[0]);
                BigInteger below = BigInteger.valueOf(6).pow(a[0]);
                return (a[1] == 0 ? above : below).divide(above.gcd(below)).longValueExact();
            case "seed":
                int was = state.z;
                state.z = a[0];
                return was;
            default:
                return written(name, a);
        }
    }

    private long written(String name, int[] a) {
        switch (name) {
            case "feed":
                in(a[1], 1, 4);
                need(tape.length() + a[1] <= 120, Due.FULL);
                for (int i = a[1]; i > 0; i--) {
                    tape.append((char) (a[0] >> 8 * (i - 1) & 255));
                }
                return tape.length();
            case "wipe":
                int had = tape.length();
                tape.setLength(0);
                return had;
            case "text":
                String text = tape.toString();
                tape.setLength(0);
                return new Reading(text).all();
            case "hold":
                in(a[0], 0, 9);
                in(a[1], -1, state.moths.size() - 1);
                state.spots[a[0]] = a[1];
                return 1;
            case "as":
                in(a[0], 0, 9);
                in(a[1], 0, 6);
                need(state.spots[a[0]] >= 0, Due.MISSING);
                Plain kind = KINDS.get(state.moths.get(state.spots[a[0]])[0]);
                need(KINDS.get(a[1]).getClass().isInstance(kind), Due.KIND);
                return state.spots[a[0]];
            default:
                return sheets(name, a);
        }
    }

    private long sheets(String name, int[] a) {
        switch (name) {
            case "sheet":
                in(a[0], 0, 3);
                need(a[1] == 0 || a[1] == 8 || a[1] == 16 || a[1] == 32, Due.BEYOND);
                need(a[2] >= 0, Due.SIZE);
                in(a[2], 0, 40);
                bits[a[0]] = a[1];
                sheets[a[0]] = a[1] == 0 ? null : new int[a[2]];
                return a[1] == 0 ? 0 : a[2];
            case "write":
                sheetIn(a[0]);
                in(a[1], 0, sheets[a[0]].length - 1);
                int shift = 32 - bits[a[0]];
                sheets[a[0]][a[1]] = a[2] << shift >> shift;
                return 1;
            case "copy":
                in(a[0], 0, 3);
                in(a[2], 0, 3);
                need(sheets[a[0]] != null && sheets[a[2]] != null, Due.MISSING);
                need(bits[a[0]] == bits[a[2]], Due.KIND);
                need(a[1] >= 0 && a[3] >= 0 && a[4] >= 0, Due.BEYOND);
                need((long) a[1] + a[4] <= sheets[a[0]].length, Due.BEYOND);
                need((long) a[3] + a[4] <= sheets[a[2]].length, Due.BEYOND);
                int[] were = sheets[a[0]].clone();
                for (int i = 0; i < a[4]; i++) {
                    sheets[a[2]][a[3] + i] = were[a[1] + i];
                }
                return a[4];
            case "load":
                sheetIn(a[0]);
                int came = 0;
                while (came < 8 && came < sheets[a[0]].length && sheets[a[0]][came] >= 0 && sheets[a[0]][came] <= 9) {
                    state.pages[0][came] = sheets[a[0]][came];
                    came++;
                }
                return came;
            case "judge":
                sheetIn(a[0]);
                int[] told = sheets[a[0]];
                return 1 + IntStream.range(0, told.length)
                        .filter(i -> i > 5 || told[i] != state.says(i)).findFirst().orElse(-1);
            default:
                return images(name, a);
        }
    }

    private long images(String name, int[] a) {
        switch (name) {
            case "image":
                kept = state.twin();
                return 1;
            case "undo":
                need(kept != null, Due.NONE);
                state = kept.twin();
                return state.night;
            case "tear":
                int was = kept == null ? 0 : 1;
                kept = null;
                return was;
            case "count":
                in(a[0], 0, 7);
                return new int[] {state.night, state.moths.size(), state.holes(), now(3), now(2), tape.length(), state.z,
                    (int) Arrays.stream(state.spots).filter(m -> m >= 0).count()}[a[0]];
            case "status":
                in(a[0], -1, 6);
                return a[0] == -1 ? Arrays.stream(counts).sum() : counts[a[0]];
            default:
                throw new IllegalStateException(name);
        }
    }

    /** Reads a text from a list of tokens. */
    private final class Reading {
        private final List<String> tokens = new ArrayList<>();
        private final List<Integer> places = new ArrayList<>();
        private int at = 0;

        Reading(String text) {
            Matcher m = Pattern.compile("[a-z]+|[0-9]+|[^ ]", Pattern.DOTALL).matcher(text);
            while (m.find()) {
                tokens.add(m.group());
                places.add(m.start());
            }
            tokens.add("");
            places.add(text.length());
        }

        int all() {
            State before = state;
            state = state.twin();
            int items = 0;
            try {
                do {
                    item();
                    items++;
                } while (passed(";"));
                need(tokens.get(at).isEmpty(), Due.BEYOND);
                return items;
            } catch (Found fault) {
                state = before;
                return -1 - places.get(at);
            }
        }

        private boolean passed(String token) {
            boolean is = tokens.get(at).equals(token);
            at += is ? 1 : 0;
            return is;
        }

        private void item() {
            int kind = Arrays.asList(NAMES).indexOf(tokens.get(at));
            if (kind >= 0) {
                need(state.moths.size() < 8, Due.BEYOND);
                at++;
                int[] m = {kind, 0, 1, 0};
                m[1] = passed("on") ? number(0, 5) : 0;
                m[2] = passed("taste") ? number(1, 9) : 1;
                m[3] = passed("fed") ? number(0, 999) : 0;
                state.moths.add(m);
            } else if (passed("page")) {
                int page = number(0, 5);
                int[] words = new int[8];
                words[0] = number(0, 9);
                for (int i = 1; i < 8 && tokens.get(at).matches("[0-9]+"); i++) {
                    words[i] = number(0, 9);
                }
                state.pages[page] = words;
            } else {
                need(passed("empty"), Due.BEYOND);
                state.pages[number(0, 5)] = new int[8];
            }
        }

        private int number(int least, int most) {
            String token = tokens.get(at);
            need(token.matches("[0-9]+"), Due.BEYOND);
            BigInteger v = new BigInteger(token);
            need(v.compareTo(BigInteger.valueOf(least)) >= 0 && v.compareTo(BigInteger.valueOf(most)) <= 0, Due.BEYOND);
            at++;
            return v.intValue();
        }
    }
}
