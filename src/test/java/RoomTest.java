import java.lang.management.ManagementFactory;

/** What dear runs of calls take of the one room that all calls of a run live in. */
public final class RoomTest {
    // 7.3 million fields and elements; nearly all of ours are ints, and the headers of objects are counted with them.
    private static final long ROOM = 7_300_000L * 4;
    private static final Due due = new Due();
    private static final com.sun.management.ThreadMXBean THREADS =
            (com.sun.management.ThreadMXBean) ManagementFactory.getThreadMXBean();
    private static int sink = 0;

    private static long taken() {
        return THREADS.getCurrentThreadAllocatedBytes();
    }

    private static void within(String what, long before) {
        long bytes = taken() - before;
        due.holds(what + " takes " + bytes + " bytes, " + ROOM + " are free", bytes <= ROOM);
    }

    private static void allLetters() {
        long before = taken();
        Roll x = Rooms.withLetters(1200);
        dearCalls(x);
        within("all letters, image and replay", before);
    }

    private static void allPieces() {
        long before = taken();
        Roll x = Rooms.withPieces(19801);
        dearCalls(x);
        within("all pieces, image and replay", before);
    }

    /** A small crowd, so that nearly all calls can be the dear ones. */
    private static void dearCallsAlone() {
        long before = taken();
        dearCalls(Crowds.hub(40, 1L));
        within("hundreds of dear calls", before);
    }

    private static void dearCalls(Roll x) {
        while (x.callsLeft() > 10) {
            sink += x.image() + x.replay() + x.back() + x.agree() + x.apart(0) + x.way(0, 38) + x.check(0, 38, 1, 1)
                    + x.next(0) + x.turn(0);
        }
    }

    private static void manyObjects() {
        long before = taken();
        for (int i = 0; i < 512; i++) {
            CrowdRoll x = new CrowdRoll();
            sink += x.member(0, 1L) + x.member(1, 1L) + x.join(0, 1) + x.deliver(0);
        }
        within("512 small objects", before);
    }

    /** What a late call answers is free, but LANGUAGE.md, rule 7, wants that none throws or fails to end. */
    private static void longLife() {
        due.sentence("What it is", "An object is used for at most 512 calls after it has been made; what later calls answer is"
                + " free.");
        CrowdRoll x = new CrowdRoll();
        for (int m = 0; m < 64; m++) {
            x.member(m, m);
        }
        x.image();
        for (int i = 0; i < 5000; i++) {
            sink += x.cut(i % 64, 7) + x.heal(7, i % 64) + x.join(i % 64, 5) + x.deliver(i) + x.twice(i) + x.turn(i % 64);
        }
        sink += x.replay() + x.image() + x.back() + x.status(0) + x.leave(0);
        due.holds("it came to its end", true);
    }

    public static void main(String[] args) {
        due.part("room");
        allLetters();
        allPieces();
        dearCallsAlone();
        manyObjects();
        longLife();
        due.finish();
    }
}
