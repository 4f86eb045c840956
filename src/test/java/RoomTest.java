import java.lang.management.ManagementFactory;

/** What dear runs of calls take of the one room that all calls of a run live in. */
public final class RoomTest {
    // 7.3 million fields and elements; nearly all of ours are ints, and the headers of objects are counted with them.
    private static final long ROOM = 7_300_000L * 4;
    private static final Due due = new Due();
    private static final com.sun.management.ThreadMXBean THREADS =
            (com.sun.management.ThreadMXBean) ManagementFactory.getThreadMXBean();
    private static int sink = 0;

    private static long taken() {
        return THREADS.getCurrentThreadAllocatedBytes();
    }

    private static void within(String what, long before, long most) {
        long bytes = taken() - before;
        due.holds(what + " takes " + bytes + " bytes, " + most + " are free", bytes <= most);
    }

    private static CrowdRoll large() {
        CrowdRoll x = Crowds.strangers(64);
        for (int m = 1; m < 64; m++) {
            x.deliver(x.join(m, 0));
        }
        int whole = x.letters(0) - 1;
        while (x.letters(4) <= 19800) {
            x.twice(whole);
        }
        return x;
    }

    private static void largestObject() {
        long before = taken();
        CrowdRoll x = large();
        x.image();
        x.replay();
        x.back();
        within("an object with all its letters, image and replay", before, ROOM / 4);
        before = taken();
        for (int i = 0; i < 100; i++) {
            sink += x.image() + x.replay() + x.back() + x.agree() + x.apart(0) + x.way(0, 63) + x.check(0, 63, 1, 1)
                    + x.next(0) + x.turn(0);
        }
        within("calls of an object that has its room", before, 4096);
    }

    private static void manyObjects() {
        long before = taken();
        for (int i = 0; i < 512; i++) {
            CrowdRoll x = new CrowdRoll();
            sink += x.member(0, 1L) + x.member(1, 1L) + x.join(0, 1) + x.deliver(0);
        }
        within("512 small objects", before, ROOM);
    }

    /** What such calls answer is free, but none may throw or take more and more room. */
    private static void longLife() {
        CrowdRoll x = Crowds.joined(3);
        x.image();
        long before = taken();
        for (int i = 0; i < 10000; i++) {
            sink += x.cut(i % 64, 7) + x.heal(7, i % 64) + x.twice(i % 1300);
        }
        sink += x.replay() + x.image() + x.back();
        within("a long life", before, ROOM);
    }

    public static void main(String[] args) {
        due.part("room");
        sink += large().replay();
        largestObject();
        manyObjects();
        longLife();
        due.finish();
    }
}
