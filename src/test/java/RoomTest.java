import java.lang.management.ManagementFactory;

/** What an object makes in 512 calls is small: all calls of one run live in one room. */
public final class RoomTest extends Desks {
    private static final int CALLS = 512;
    // An element of an int array is four bytes; the room is of 7.3 million elements, for all of a run.
    private static final long MOST_AT_FIRST = 4L * 100_000;
    private static final long MOST_LATER = 4L * 1_000_000;
    private static final com.sun.management.ThreadMXBean THREADS =
        (com.sun.management.ThreadMXBean) ManagementFactory.getThreadMXBean();

    private static KeyDesk desk;
    private static int calls;

    private static long made() {
        return THREADS.getThreadAllocatedBytes(Thread.currentThread().getId());
    }

    private static void little(String what, long bytes, long most) {
        if (bytes > most) {
            due(what + " makes", bytes + " bytes", most + " at most");
        }
    }

    /** One call of each kind, those dearest that try things out. */
    private static void askAll() {
        desk.feed(1, 2, 3, 4, 5);
        desk.end(0);
        desk.plan();
        desk.setting(0);
        desk.signal(0, 0);
        desk.key(0, 0);
        desk.order(0, 0);
        desk.ledger(0, 3);
        desk.isIn(0, 0);
        desk.rank();
        desk.fixed(NONE);
        desk.last(0, 0);
        desk.spied(NONE);
        desk.block(0, 0, 2);
        desk.secret(true);
        desk.would(6, 1);
        desk.best(0);
        desk.seeds(2, 2);
        desk.noise(2);
        desk.rounds(1);
        desk.image(0);
        desk.image(1);
        desk.count(2);
        calls += 23;
    }

    private static void slipSome(int many, int step) {
        for (int k = 0; k < many; k++) {
            desk.slip(k * step % Math.max(1, desk.count(1)));
            calls++;
        }
    }

    /** Slips ahead of each pass and each winnow, so that much is told; all twelve of the history. */
    private static void fillLedger() {
        desk.begin();
        desk.sample();
        for (int k = 0; k < 8; k++) {
            slipSome(8, 9);
            desk.winnow();
        }
        for (int k = 0; k < 6; k++) {
            slipSome(6, 13);
            desk.pass();
        }
        askAll();
        desk.check();
        desk.shorten();
        desk.back(0);
        desk.undo();
        calls += 20;
    }

    public static void main(String[] args) {
        made();
        new KeyDesk();
        long before = made();
        desk = new KeyDesk();
        little("a new object", made() - before, MOST_AT_FIRST);
        feed(desk, "signals 256;noise 500;spy 100;sample 0;block 2;passes 6;hash 30;safe 0");
        desk.plan();
        before = made();
        while (calls < CALLS) {
            fillLedger();
        }
        little("a run", made() - before, MOST_LATER);
        before = made();
        for (int k = 0; k < CALLS; k++) {
            askAll();
        }
        little("asking on", made() - before, MOST_LATER / 100);
        System.out.println(wrong == 0 ? "what is made is small" : wrong + " times too much is made");
        if (wrong != 0) {
            System.exit(1);
        }
    }
}
