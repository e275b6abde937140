import java.lang.management.ManagementFactory;

/** All calls of a run live in one room: an object is small, and no call makes anything. */
final class RoomTest {
    private static final int ROUNDS = 200;
    private static final com.sun.management.ThreadMXBean THREADS =
            (com.sun.management.ThreadMXBean) ManagementFactory.getThreadMXBean();

    public static void main(String[] args) {
        Due due = new Due();
        // Whatever the machine makes for itself at the first use shall not count.
        play(new MothTongue(), ROUNDS);
        made();
        long before = bytes();
        MothTongue x = made();
        long object = bytes() - before;
        due.isTrue("an object takes " + object + " bytes", object < 6000);
        before = bytes();
        play(x, ROUNDS);
        long calls = bytes() - before;
        due.isTrue("calls make nothing, but " + calls + " bytes were made", calls < 1000);
        due.end();
    }

    private static MothTongue made() {
        return new MothTongue();
    }

    private static long bytes() {
        return THREADS.getThreadAllocatedBytes(Thread.currentThread().getId());
    }

    /** Every call, the dearest ones at their most. */
    private static void play(MothTongue x, int rounds) {
        for (int i = 0; i < rounds; i++) {
            x.image();
            for (int m = 0; m < 8; m++) {
                x.moth(m % 7, 0);
                x.change(m, 2, 1 + i % 9);
                x.word(0, m, 9 - i % 3);
                x.word(1, m, m);
            }
            x.reads(0, 0);
            x.page(0, 3);
            x.copied(0, 2);
            x.of(0, 4);
            x.leaves(3, 5, 0);
            x.now(4);
            x.ahead(0, 0, 100);
            x.says(0, 100);
            x.fed(0, 100);
            x.bare(5);
            x.when(0, 324);
            x.settles();
            x.alike(0, 1);
            x.put(0, 0, 40);
            x.tasteFor(0, 0, 40);
            x.kindFor(0, 0, 40);
            x.swapFor(0, 40);
            x.out(0, 20);
            x.sheet(0, 32, 40);
            x.sheet(1, 32, 40);
            for (int n = 0; n < 40; n++) {
                x.write(0, n, -1);
            }
            x.copy(0, 0, 1, 0, 40);
            x.fits(0, 0, 0, 20);
            x.kinds(0, 0);
            x.judge(1);
            x.load(1);
            x.go(1);
            x.lights(1);
            x.odds(23, 1);
            x.seed(i);
            x.hold(i % 10, 0);
            x.as(i % 10, 0);
            for (int n = 0; n < 10; n++) {
                x.feed('o' << 24 | 'l' << 16 | 'd' << 8 | ';', 4);
            }
            x.text();
            x.feed('o' << 16 | 'l' << 8 | 'd', 3);
            x.text();
            x.wipe();
            x.undo();
            x.tear();
            x.count(7);
            x.status(-1);
            x.status(9);
        }
    }
}
