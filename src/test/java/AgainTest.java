/** Promises 31 to 36: replay, image, back, trace, again, status; and room (==== 4). */
public final class AgainTest {
    private static final Due due = new Due();
    private static final int NO = CrowdRoll.NO;
    private static final int FULL = CrowdRoll.FULL;
    private static final int NOTHING = CrowdRoll.NOTHING;

    private static void busy(CrowdRoll x, int members, int steps) {
        for (int i = 0; i < steps; i++) {
            x.turn(i % members);
            x.deliver(x.underWay(i % 3));
        }
    }

    private static void replay() {
        due.part("promise 31");
        CrowdRoll x = new CrowdRoll();
        due.is("of nothing", x.replay(), 1);
        x = Crowds.joined(5);
        x.member(60, Long.MIN_VALUE + 5);
        x.cut(0, 3);
        busy(x, 5, 20);
        x.leave(4);
        x.fall(3);
        x.rise(4);
        x.heal(0, 3);
        x.twice(x.underWay(0));
        x.lose(x.underWay(1));
        int acts = x.status(0);
        int sent = x.letters(0);
        int put = x.trace(4);
        due.is("replay()", x.replay(), 1);
        due.is("replay() again", x.replay(), 1);
        due.is("no act by it", x.status(0), acts);
        due.is("no letter by it", x.letters(0), sent);
        due.is("no trace by it", x.trace(4), put);
        x.turn(9);
        x.member(0, 99L);
        due.is("refused acts are not replayed", x.replay(), 1);
    }

    private static void imageAndBack() {
        due.part("promises 32 and 33");
        CrowdRoll x = Crowds.joined(5);
        due.is("back() without an image", x.back(), NO);
        busy(x, 5, 6);
        x.cut(1, 2);
        int acts = x.status(0);
        due.is("image()", x.image(), acts);
        int[] before = tell(x);
        x.copy(0, 0, 1, 3);
        int copied = x.table(3);
        x.way(0, 1);
        busy(x, 5, 20);
        x.heal(1, 2);
        x.member(50, 1L);
        x.leave(0);
        x.fall(1);
        x.state(64, 0);
        due.is("back()", x.back(), acts);
        due.is("refusals stay", x.again(), CrowdRoll.BEYOND);
        same(before, tell(x));
        due.is("the link is cut again", x.cut(1, 2), 0);
        due.is("the table stays", x.table(3), copied);
        due.holds("the way stays", x.wayAt(0) >= 0);
        due.is("member 50 was not made", x.state(50, 0), CrowdRoll.MISSING);
        due.is("replay()", x.replay(), 1);
        busy(x, 5, 5);
        due.is("the image stays", x.back(), acts);
        same(before, tell(x));
        x.member(50, 1L);
        due.is("image() anew", x.image(), acts + 1);
        x.fall(50);
        due.is("back() to the new one", x.back(), acts + 1);
        due.is("member 50", x.state(50, 0), 0);
    }

    private static int[] tell(CrowdRoll x) {
        java.util.List<Integer> all = new java.util.ArrayList<>();
        for (int what = 0; what <= 4; what++) {
            all.add(x.letters(what));
        }
        for (int t = 0; t < 12; t++) {
            all.add(x.trace(t));
        }
        for (int m = 0; m < 5; m++) {
            for (int what = 0; what < 12; what++) {
                all.add(x.state(m, what));
            }
            for (int other = 0; other < 5; other++) {
                all.add(x.next(m));
                for (int what = 0; what < 5; what++) {
                    all.add(x.news(m, other, what));
                }
            }
        }
        return all.stream().mapToInt(i -> i).toArray();
    }

    private static void same(int[] before, int[] after) {
        due.holds("all is as it was", java.util.Arrays.equals(before, after));
    }

    private static void traceOfNews() {
        due.part("promise 34, news");
        CrowdRoll x = Crowds.joined(2);
        due.is("alive taken", x.trace(0), 3);
        due.is("alive put", x.trace(4), 3);
        x.leave(1);
        due.is("left put", x.trace(7), 1);
        due.is("alive put", x.trace(4), 4);
        int l = x.letters(0) - 1;
        int copy = x.twice(l);
        due.is("a copy is put on aside", x.trace(7), 1);
        x.deliver(l);
        x.deliver(copy);
        due.is("left taken, though it came once", x.trace(3), 2);
        x.rise(1);
        int lost = x.join(1, 0);
        int alive = x.trace(0);
        x.cut(0, 1);
        x.deliver(lost);
        due.is("nothing is taken of a lost letter", x.trace(0), alive);
        due.is("trace(12)", x.trace(12), NO);
        due.is("trace(-1)", x.trace(-1), NO);
    }

    private static void traceOfTurns() {
        due.part("promise 34, turns");
        CrowdRoll x = Crowds.joined(2);
        for (int t = 1; t <= 8; t++) {
            x.turn(0);
        }
        due.is("doubts looked at, turns 4 to 8", x.trace(8), 5);
        due.is("gone", x.trace(9), 1);
        due.is("rounds, one a turn, the empty one too", x.trace(11), 8);
        due.is("doubted put", x.trace(5), 5);
        due.is("gone put: nothing was sent after", x.trace(6), 0);
        x.join(0, 1);
        due.is("gone put", x.trace(6), 1);
        x.deliver(x.letters(0) - 1);
        due.is("gone taken", x.trace(2), 1);
        due.is("refuted", x.trace(10), 1);
        due.is("doubted taken", x.trace(1), 0);
        x.deliver(4);
        due.is("doubted taken", x.trace(1), 1);
        due.is("not refuted again", x.trace(10), 1);
    }

    private static void again() {
        due.part("promise 35");
        CrowdRoll x = new CrowdRoll();
        due.is("none", x.again(), NOTHING);
        x.turn(0);
        x.turn(64);
        due.is("the latest", x.again(), CrowdRoll.BEYOND);
        due.is("none any more", x.again(), NOTHING);
        x.trace(99);
        x.member(0, 1L);
        due.is("acts that are done leave it", x.again(), NO);
        x.status(99);
        due.is("of any call", x.again(), NO);
        x.apart(0);
        x.underWay(0);
        x.next(0);
        due.is("NONE is no refusal", x.again(), NOTHING);
    }

    private static void status() {
        due.part("promise 36");
        CrowdRoll x = Crowds.joined(2);
        for (int by = -10; by <= -2; by++) {
            due.is("status(" + by + ")", x.status(by), 0);
        }
        due.is("acts", x.status(0), 5);
        x.state(7, 0);
        x.state(64, 0);
        x.copy(0, 0, -1, 0);
        x.as(0, 0, 2);
        x.copy(0, 0, 99, 0);
        x.again();
        x.again();
        x.leave(1);
        x.turn(1);
        x.back();
        int[] want = {0, 1, 1, 0, 1, 1, 1, 1, 1};
        for (int by = -10; by <= -2; by++) {
            due.is("status(" + by + ")", x.status(by), want[by + 10]);
        }
        due.is("status(-1)", x.status(-1), NO);
        due.is("status(1)", x.status(1), NO);
        due.is("status(-11)", x.status(-11), NO);
        due.is("status(min)", x.status(Integer.MIN_VALUE), NO);
        due.is("these are counted, too", x.status(-9), 5);
        due.is("acts", x.status(0), 6);
    }

    /** Every act is refused for want of room, but only if nothing else speaks against it. */
    private static void refusesAll(CrowdRoll x, int acts) {
        int open = x.underWay(0);
        due.is("member(50, 1)", x.member(50, 1L), FULL);
        due.is("join(0, 1)", x.join(0, 1), FULL);
        due.is("leave(0)", x.leave(0), FULL);
        due.is("turn(0)", x.turn(0), FULL);
        due.is("fall(0)", x.fall(0), FULL);
        due.is("rise(1)", x.rise(1), FULL);
        due.is("deliver", x.deliver(open), FULL);
        due.is("lose", x.lose(open), FULL);
        due.is("twice", x.twice(open), FULL);
        due.is("cut(0, 1)", x.cut(0, 1), FULL);
        due.is("heal(0, 1)", x.heal(0, 1), FULL);
        due.is("rise(0): not as told before full", x.rise(0), NO);
        due.is("join(0, 0)", x.join(0, 0), NO);
        due.is("turn(1): down before full", x.turn(1), CrowdRoll.DOWN);
        due.is("acts", x.status(0), acts);
        due.is("status(-10)", x.status(-10), 11);
        due.is("replay()", x.replay(), 1);
    }

    private static void roomForLetters() {
        due.part("room for letters");
        CrowdRoll x = Crowds.joined(24);
        x.fall(1);
        int calls = 96;
        while (x.letters(0) < 1197 && calls < 480) {
            x.turn(calls % 24);
            calls++;
        }
        due.holds("the room is used up within 512 calls", calls < 480);
        due.holds("letters", x.letters(0) >= 1197 && x.letters(0) <= 1200);
        refusesAll(x, x.status(0));
    }

    private static void lastLetters() {
        due.part("room for letters, the edge");
        CrowdRoll x = Crowds.joined(24);
        int calls = 96;
        while (x.letters(0) < 1192 && calls < 480) {
            x.turn(calls % 24);
            calls++;
        }
        int open = x.underWay(0);
        for (int l = x.letters(0); l < 1196 && calls < 500; l++) {
            due.is("twice", x.twice(open), l);
            calls++;
        }
        due.is("1196 letters leave room for 4", x.twice(open), 1196);
        due.is("1197 do not", x.twice(open), FULL);
    }

    private static void roomForPieces() {
        due.part("room for pieces");
        CrowdRoll x = Crowds.strangers(64);
        for (int m = 1; m < 64; m++) {
            x.deliver(x.join(m, 0));
        }
        int whole = x.letters(0) - 1;
        int calls = 64 + 126;
        while (x.letters(4) + 64 <= 19800 && calls < 500) {
            x.twice(whole);
            calls++;
        }
        int pieces = x.letters(4);
        due.is("fewer than 200 are not left yet", x.twice(whole) < 0 ? 1 : 0, 0);
        due.is("pieces", x.letters(4), pieces + 64);
        due.is("twice", x.twice(whole), FULL);
        due.is("turn(0)", x.turn(0), FULL);
        due.is("image()", x.image(), x.status(0));
        due.is("replay()", x.replay(), 1);
        due.holds("within 512 calls", calls + 10 < 512);
    }

    public static void main(String[] args) {
        replay();
        imageAndBack();
        traceOfNews();
        traceOfTurns();
        again();
        status();
        roomForLetters();
        lastLetters();
        roomForPieces();
        due.finish();
    }
}
