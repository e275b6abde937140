/** What answers are due; a test makes one, asks it and ends with it. */
final class Due {
    static final int BEYOND = -1000001;
    static final int FULL = -1000002;
    static final int KIND = -1000003;
    static final int NONE = -1000004;
    static final int STATE = -1000005;
    static final int MISSING = -1000006;
    static final int SIZE = -1000007;
    private static final int FINDINGS = 7;

    /** Calls that bring a new object to where a test begins. */
    interface Scene {
        void on(MothTongue x);
    }

    /** The call that is tested. */
    interface Call {
        long on(MothTongue x);
    }

    private int asked = 0;
    private int wrong = 0;

    void is(String call, long got, long want) {
        asked++;
        if (got != want) {
            wrong++;
            System.out.println(call + " answered " + got + ", due is " + want);
        }
    }

    void isTrue(String claim, boolean holds) {
        is(claim, holds ? 1 : 0, 1);
    }

    /** The call answers so and changes nothing at all. */
    void looks(String call, long want, Scene scene, Call asking) {
        MothTongue x = made(scene);
        int[] before = statuses(x);
        is(call, asking.on(x), want);
        compareStatuses(call, statuses(x), before);
        compareState(call, x, made(scene));
    }

    /** The call answers a finding, which is counted, and changes nothing else. */
    void refuses(String call, int finding, Scene scene, Call asking) {
        MothTongue x = made(scene);
        int[] due = statuses(x);
        is(call, asking.on(x), finding);
        due[0]++;
        due[1 + BEYOND - finding]++;
        compareStatuses(call, statuses(x), due);
        compareState(call, x, made(scene));
    }

    static MothTongue made(Scene scene) {
        MothTongue x = new MothTongue();
        scene.on(x);
        return x;
    }

    private static int[] statuses(MothTongue x) {
        int[] all = new int[1 + FINDINGS];
        for (int which = -1; which < FINDINGS; which++) {
            all[1 + which] = x.status(which);
        }
        return all;
    }

    private void compareStatuses(String call, int[] got, int[] due) {
        for (int i = 0; i < due.length; i++) {
            is("behind " + call + " status(" + (i - 1) + ")", got[i], due[i]);
        }
    }

    private void compareState(String call, MothTongue x, MothTongue twin) {
        String got = Observed.of(x);
        String due = Observed.of(twin);
        isTrue("behind " + call + " all is as it was: got\n" + got + "due\n" + due, got.equals(due));
    }

    void end() {
        System.out.println(asked + " asked, " + wrong + " wrong");
        if (asked == 0 || wrong != 0) {
            System.exit(1);
        }
    }
}
