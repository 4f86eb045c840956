/** Promises 1 to 12: a new object and the acts, with the text of "Terms" that they rest on. */
public final class ActsTest {
    private static final Due due = new Due();
    private static final int MISSING = CrowdRoll.MISSING;
    private static final int BEYOND = CrowdRoll.BEYOND;
    private static final int DOWN = CrowdRoll.DOWN;
    private static final int NO = CrowdRoll.NO;
    private static final int NONE = CrowdRoll.NONE;

    private static void newObject() {
        due.part("promise 1");
        CrowdRoll x = new CrowdRoll();
        for (int what = 0; what <= 4; what++) {
            due.is("letters(" + what + ")", x.letters(what), 0);
        }
        for (int i = 0; i < 16; i++) {
            due.is("table(" + i + ")", x.table(i), NONE);
        }
        for (int m = 0; m < 64; m++) {
            due.is("state(" + m + ", 0)", x.state(m, 0), MISSING);
        }
        due.is("status(0)", x.status(0), 0);
        due.is("heal(3, 4): no link is cut", x.heal(3, 4), 0);
    }

    private static void member() {
        due.part("promise 2");
        CrowdRoll x = new CrowdRoll();
        due.is("member(63, min)", x.member(63, Long.MIN_VALUE), 1);
        due.is("member(0, max)", x.member(0, Long.MAX_VALUE), 2);
        due.is("member(0, 5)", x.member(0, 5L), NO);
        due.is("member(64, 5)", x.member(64, 5L), BEYOND);
        due.is("member(-1, 5)", x.member(-1, 5L), BEYOND);
        due.is("standing", x.state(63, 0), 0);
        due.is("term", x.state(63, 1), 1);
        due.is("turns", x.state(63, 2), 0);
        due.is("its roll has itself alone", x.state(63, 3), 1);
        due.is("kind", x.news(63, 63, 0), 1);
        due.is("term", x.news(63, 63, 1), 1);
        due.is("told", x.news(63, 63, 2), 0);
        due.is("turn", x.news(63, 63, 3), 0);
        due.is("letter", x.news(63, 63, 4), NONE);
        x.fall(0);
        due.is("a fallen one was made", x.member(0, 5L), NO);
    }

    private static void join() {
        due.part("promise 3");
        CrowdRoll x = Crowds.strangers(3);
        due.is("join(1, 0)", x.join(1, 0), 0);
        due.is("kind", x.letter(0, 0), 5);
        due.is("sender", x.letter(0, 1), 1);
        due.is("receiver", x.letter(0, 2), 0);
        due.is("about", x.letter(0, 3), NONE);
        due.is("pieces", x.letter(0, 4), 1);
        due.is("told once more", x.news(1, 1, 2), 1);
        due.is("join(1, 2)", x.join(1, 2), 1);
        due.is("join(1, 1)", x.join(1, 1), NO);
        due.is("join(1, 3)", x.join(1, 3), MISSING);
        due.is("join(3, 1)", x.join(3, 1), MISSING);
        due.is("join(3, 3): missing before not as told", x.join(3, 3), MISSING);
        due.is("join(1, 64)", x.join(1, 64), BEYOND);
        due.is("join(3, -1): beyond before missing", x.join(3, -1), BEYOND);
        x.fall(2);
        due.is("join(2, 0)", x.join(2, 0), DOWN);
        due.is("join(2, 2): down before not as told", x.join(2, 2), DOWN);
        due.is("join(2, 3): missing before down", x.join(2, 3), MISSING);
        due.is("y need not be up", x.join(1, 2), 2);
    }

    private static void leave() {
        due.part("promise 4");
        CrowdRoll x = Crowds.joined(6);
        x.turn(5);
        x.turn(5);
        due.is("it waits before", x.state(5, 9) == NONE ? 1 : 0, 0);
        int first = x.letters(0);
        due.is("leave(5)", x.leave(5), 3);
        due.is("standing", x.state(5, 0), 2);
        due.is("its own news", x.news(5, 5, 0), 4);
        due.is("its own term", x.news(5, 5, 1), 1);
        due.is("asked", x.state(5, 8), NONE);
        due.is("bid for", x.state(5, 9), NONE);
        due.is("round", x.state(5, 10), 0);
        due.is("place", x.state(5, 11), 0);
        for (int l = first; l < first + 3; l++) {
            due.is("kind of " + l, x.letter(l, 0), 6);
            due.is("about of " + l, x.letter(l, 3), NONE);
            due.is("pieces of " + l, x.letter(l, 4), 6);
            due.is("last piece of " + l, x.carries(l, 5, 1), 4);
            due.is("own news is not told more by it", x.news(5, 5, 2), 0);
        }
        due.is("leave(5) again", x.leave(5), DOWN);
        due.is("leave(6)", x.leave(6), MISSING);
        due.is("leave(64)", x.leave(64), BEYOND);
        due.is("a leaver that knows nobody", Crowds.strangers(1).leave(0), 0);
        due.is("a leaver that knows one", Crowds.joined(2).leave(1), 1);
    }

    /** The three are drawn one by one from a row that closes up. */
    private static void leaveDraws() {
        due.part("promise 4, draws");
        CrowdRoll x = Crowds.joined(7);
        java.util.List<Integer> row = new java.util.ArrayList<>(java.util.List.of(1, 2, 3, 4, 5, 6));
        long seed = 1L;
        int first = x.letters(0);
        x.leave(0);
        for (int i = 0; i < 3; i++) {
            seed = Crowds.stir(seed);
            due.is("receiver " + i, x.letter(first + i, 2), row.remove(Crowds.drawn(seed, row.size())));
        }
    }

    private static void turnAsks() {
        due.part("promise 5, a first turn");
        CrowdRoll x = Crowds.joined(5);
        int[] round = {1, 2, 3, 4};
        long seed = 1L;
        for (int i = 3; i >= 1; i--) {
            seed = Crowds.stir(seed);
            int j = Crowds.drawn(seed, i + 1);
            int one = round[i];
            round[i] = round[j];
            round[j] = one;
        }
        int first = x.letters(0);
        due.is("next(0)", x.next(0), round[0]);
        due.is("turn(0)", x.turn(0), 1);
        for (int i = 0; i < 4; i++) {
            due.is("round(0, " + i + ")", x.round(0, i), round[i]);
        }
        due.is("kind", x.letter(first, 0), 1);
        due.is("receiver", x.letter(first, 2), round[0]);
        due.is("about", x.letter(first, 3), NONE);
        due.is("turns", x.state(0, 2), 1);
        due.is("asked", x.state(0, 8), round[0]);
        due.is("bid for", x.state(0, 9), NONE);
        due.is("place", x.state(0, 11), 1);
        due.part("promise 5, a second turn");
        due.is("turn(0)", x.turn(0), 4);
        due.is("bid for", x.state(0, 9), round[0]);
        due.is("asked", x.state(0, 8), round[1]);
        java.util.List<Integer> row = new java.util.ArrayList<>(java.util.List.of(1, 2, 3, 4));
        row.remove(Integer.valueOf(round[0]));
        for (int i = 0; i < 3; i++) {
            seed = Crowds.stir(seed);
            due.is("bid's kind", x.letter(first + 1 + i, 0), 2);
            due.is("bid's receiver", x.letter(first + 1 + i, 2), row.remove(Crowds.drawn(seed, row.size())));
            due.is("bid's about", x.letter(first + 1 + i, 3), round[0]);
        }
        due.part("promise 5, a third turn");
        due.is("not doubted before", x.news(0, round[0], 0), 1);
        x.turn(0);
        due.is("doubted", x.news(0, round[0], 0), 2);
        due.is("with its term", x.news(0, round[0], 1), 1);
        due.is("at this turn", x.news(0, round[0], 3), 3);
        due.is("its own word", x.news(0, round[0], 4), NONE);
    }

    private static void turnEndsDoubts() {
        due.part("promise 5, old doubts");
        CrowdRoll x = Crowds.joined(2);
        x.turn(0);
        x.turn(0);
        x.turn(0);
        due.is("doubted at turn 3", x.news(0, 1, 3), 3);
        for (int t = 4; t <= 7; t++) {
            x.turn(0);
            due.is("still doubted at turn " + t, x.news(0, 1, 0), 2);
        }
        due.is("turn 8 sends nothing: 1 is gone and nobody is left to bid", x.turn(0), 0);
        due.is("gone", x.news(0, 1, 0), 3);
        due.is("with its term", x.news(0, 1, 1), 1);
        due.is("at this turn", x.news(0, 1, 3), 8);
        due.is("an empty round", x.state(0, 10), 0);
        due.is("its place", x.state(0, 11), 0);
        due.is("asked", x.state(0, 8), NONE);
        due.is("bid for, though it is gone", x.state(0, 9), 1);
        x.turn(0);
        due.is("bid for no more", x.state(0, 9), NONE);
        due.is("one that is gone is not doubted", x.news(0, 1, 0), 3);
        due.part("promise 5, wrong inputs");
        due.is("turn(5)", x.turn(5), MISSING);
        due.is("turn(64)", x.turn(64), BEYOND);
        due.is("turn(-1)", x.turn(-1), BEYOND);
        x.fall(1);
        due.is("turn(1)", x.turn(1), DOWN);
        due.is("a turn of one that is alone", Crowds.strangers(1).turn(0), 0);
    }

    private static void fall() {
        due.part("promise 6");
        CrowdRoll x = Crowds.joined(3);
        x.turn(0);
        x.turn(0);
        due.is("fall(0)", x.fall(0), 1);
        due.is("standing", x.state(0, 0), 1);
        due.is("turns are kept", x.state(0, 2), 2);
        due.is("its roll has itself alone", x.state(0, 3), 1);
        due.is("kind", x.news(0, 0, 0), 1);
        due.is("told", x.news(0, 0, 2), 0);
        due.is("turn", x.news(0, 0, 3), 2);
        due.is("letter", x.news(0, 0, 4), NONE);
        due.is("asked", x.state(0, 8), NONE);
        due.is("bid for", x.state(0, 9), NONE);
        due.is("round", x.state(0, 10), 0);
        due.is("place", x.state(0, 11), 0);
        due.is("fall(0) again", x.fall(0), DOWN);
        due.is("fall(9)", x.fall(9), MISSING);
        due.is("fall(64)", x.fall(64), BEYOND);
        x.leave(1);
        due.is("one that is away", x.fall(1), DOWN);
        x.rise(0);
        due.is("the term is kept", x.fall(0), 2);
    }

    private static void rise() {
        due.part("promise 7");
        CrowdRoll x = Crowds.joined(3);
        due.is("rise(0)", x.rise(0), NO);
        due.is("rise(9)", x.rise(9), MISSING);
        due.is("rise(64)", x.rise(64), BEYOND);
        x.fall(0);
        due.is("rise(0) after a fall", x.rise(0), 2);
        due.is("standing", x.state(0, 0), 0);
        due.is("term", x.state(0, 1), 2);
        due.is("kind", x.news(0, 0, 0), 1);
        due.is("term of it", x.news(0, 0, 1), 2);
        due.is("nothing else came back", x.state(0, 3), 1);
        x.turn(2);
        x.leave(2);
        due.is("rise(2) after it left", x.rise(2), 2);
        due.is("the roll is kept", x.state(2, 3), 3);
        due.is("kind", x.news(2, 2, 0), 1);
        due.is("turn", x.news(2, 2, 3), 1);
        due.is("no round", x.state(2, 10), 0);
    }

    private static void deliverAsk() {
        due.part("promise 8, ask and answer");
        CrowdRoll x = Crowds.joined(2);
        x.turn(0);
        due.is("ask", x.deliver(2), 1);
        due.is("answer's kind", x.letter(3, 0), 3);
        due.is("answer's sender", x.letter(3, 1), 1);
        due.is("answer's receiver", x.letter(3, 2), 0);
        due.is("answer's about", x.letter(3, 3), NONE);
        due.is("waits", x.state(0, 8), 1);
        due.is("answer", x.deliver(3), 0);
        due.is("waits no more", x.state(0, 8), NONE);
        due.is("deliver(3) again", x.deliver(3), MISSING);
        due.is("deliver(4)", x.deliver(4), BEYOND);
        due.is("deliver(-1)", x.deliver(-1), BEYOND);
        due.is("fate", x.letter(3, 5), 1);
    }

    private static void deliverBid() {
        due.part("promise 8, bid to passed");
        CrowdRoll x = Crowds.joined(3);
        x.turn(0);
        int asked = x.state(0, 8);
        int helper = 3 - asked;
        x.turn(0);
        int bid = x.letters(0) - 2;
        due.is("bid's kind", x.letter(bid, 0), 2);
        due.is("bid", x.deliver(bid), 1);
        int ask = bid + 2;
        due.is("ask's kind", x.letter(ask, 0), 1);
        due.is("ask's sender", x.letter(ask, 1), helper);
        due.is("ask's receiver", x.letter(ask, 2), asked);
        due.is("ask's about", x.letter(ask, 3), 0);
        due.is("the helper does not wait", x.state(helper, 8), NONE);
        due.is("ask", x.deliver(ask), 1);
        due.is("answer's about", x.letter(ask + 1, 3), 0);
        due.is("answer", x.deliver(ask + 1), 1);
        due.is("passed's kind", x.letter(ask + 2, 0), 4);
        due.is("passed's sender", x.letter(ask + 2, 1), helper);
        due.is("passed's receiver", x.letter(ask + 2, 2), 0);
        due.is("passed's about", x.letter(ask + 2, 3), asked);
        due.is("still bid for", x.state(0, 9), asked);
        due.is("passed", x.deliver(ask + 2), 0);
        due.is("bid for no more", x.state(0, 9), NONE);
        due.is("asked is another one", x.state(0, 8), helper);
    }

    /** One that is asked anew while it is bid for waits as both, and an answer ends both. */
    private static void deliverEndsBoth() {
        due.part("promise 8, answered ends both");
        CrowdRoll x = Crowds.joined(2);
        x.turn(0);
        x.turn(0);
        due.is("asked", x.state(0, 8), 1);
        due.is("bid for", x.state(0, 9), 1);
        x.deliver(2);
        x.deliver(4);
        due.is("asked no more", x.state(0, 8), NONE);
        due.is("bid for no more", x.state(0, 9), NONE);
    }

    private static void deliverLost() {
        due.part("promise 8, lost letters");
        CrowdRoll x = Crowds.joined(2);
        x.join(1, 0);
        x.join(1, 0);
        x.join(1, 0);
        x.cut(0, 1);
        due.is("a cut link", x.deliver(2), NONE);
        due.is("fate", x.letter(2, 5), 2);
        x.heal(1, 0);
        x.fall(0);
        due.is("a fallen receiver", x.deliver(3), NONE);
        x.rise(0);
        x.leave(0);
        due.is("a receiver that is away", x.deliver(4), NONE);
        due.is("lost", x.letters(3), 3);
        due.is("NONE is no refusal", x.again(), CrowdRoll.NOTHING);
        x.rise(0);
        x.join(1, 0);
        x.fall(1);
        due.is("a sender that fell does not matter", x.deliver(5), 1);
    }

    /** News of oneself is refuted only if it is not ALIVE and its term not below. */
    private static void deliverRefutes() {
        due.part("promise 8, refutation");
        CrowdRoll x = Crowds.joined(2);
        x.turn(0);
        x.turn(0);
        x.turn(0);
        due.is("doubted", x.news(0, 1, 0), 2);
        int old = x.letters(0) - 1;
        int again = x.twice(old);
        due.is("ask with the doubt", x.deliver(old), 1);
        due.is("term", x.state(1, 1), 2);
        due.is("own news", x.news(1, 1, 1), 2);
        due.is("own kind", x.news(1, 1, 0), 1);
        due.is("trace(10)", x.trace(10), 1);
        due.is("the same doubt again", x.deliver(again), 1);
        due.is("a term below is not refuted", x.state(1, 1), 2);
        due.is("trace(10)", x.trace(10), 1);
        x.deliver(again + 1);
        due.is("the doubt is taken back", x.news(0, 1, 0), 1);
        due.is("by the greater term", x.news(0, 1, 1), 2);
        due.is("with the letter", x.news(0, 1, 4), again + 1);
        due.is("told anew", x.news(0, 1, 2), 0);
    }

    private static void deliverTakesBetterNews() {
        due.part("promise 8, news that beats");
        CrowdRoll x = Crowds.joined(3);
        x.deliver(x.join(1, 0));
        x.deliver(x.letters(0) - 1);
        int brought = x.news(1, 2, 4);
        due.is("1 knows 2", x.news(1, 2, 0), 1);
        x.deliver(x.join(1, 0));
        x.deliver(x.letters(0) - 1);
        due.is("the same news again does not come", x.news(1, 2, 4), brought);
        x.leave(2);
        int farewell = x.letters(0) - 1;
        int to = x.letter(farewell, 2);
        x.deliver(farewell);
        due.is("left beats alive", x.news(to, 2, 0), 4);
        due.is("it came by the letter", x.news(to, 2, 4), farewell);
    }

    private static void lose() {
        due.part("promise 9");
        CrowdRoll x = Crowds.strangers(2);
        x.join(0, 1);
        x.join(1, 0);
        due.is("lose(0)", x.lose(0), 1);
        due.is("fate", x.letter(0, 5), 2);
        due.is("lose(0) again", x.lose(0), MISSING);
        due.is("deliver(0)", x.deliver(0), MISSING);
        due.is("lose(2)", x.lose(2), BEYOND);
        due.is("lose(-1)", x.lose(-1), BEYOND);
        due.is("lose(1)", x.lose(1), 0);
    }

    private static void twice() {
        due.part("promise 10");
        CrowdRoll x = Crowds.joined(3);
        int join = x.join(2, 1);
        int told = x.news(2, 2, 2);
        int copy = x.twice(join);
        due.is("twice", copy, join + 1);
        due.is("none is told more", x.news(2, 2, 2), told);
        for (int what = 0; what <= 4; what++) {
            due.is("letter(copy, " + what + ")", x.letter(copy, what), x.letter(join, what));
        }
        for (int i = 0; i < x.letter(join, 4); i++) {
            for (int what = 0; what <= 3; what++) {
                due.is("carries(copy, " + i + ", " + what + ")", x.carries(copy, i, what), x.carries(join, i, what));
            }
        }
        due.is("copy of", x.letter(copy, 6), join);
        due.is("fate", x.letter(copy, 5), 0);
        due.is("a copy's copy", x.letter(x.twice(copy), 6), copy);
        x.deliver(join);
        due.is("the copy is still under way", x.letter(copy, 5), 0);
        due.is("twice(join)", x.twice(join), MISSING);
        due.is("twice(99)", x.twice(99), BEYOND);
        due.is("twice(-1)", x.twice(-1), BEYOND);
    }

    private static void links() {
        due.part("promises 11 and 12");
        CrowdRoll x = new CrowdRoll();
        due.is("cut(0, 63)", x.cut(0, 63), 1);
        due.is("cut(63, 0)", x.cut(63, 0), 0);
        due.is("heal(0, 62): link by link", x.heal(0, 62), 0);
        due.is("heal(63, 0)", x.heal(63, 0), 1);
        due.is("heal(0, 63)", x.heal(0, 63), 0);
        due.is("cut(5, 5)", x.cut(5, 5), NO);
        due.is("heal(5, 5)", x.heal(5, 5), NO);
        due.is("cut(64, 64): beyond before not as told", x.cut(64, 64), BEYOND);
        due.is("cut(0, -1)", x.cut(0, -1), BEYOND);
        due.is("heal(-1, 0)", x.heal(-1, 0), BEYOND);
        due.is("heal(0, 64)", x.heal(0, 64), BEYOND);
        due.is("acts, those that change nothing too", x.status(0), 5);
    }

    public static void main(String[] args) {
        newObject();
        member();
        join();
        leave();
        leaveDraws();
        turnAsks();
        turnEndsDoubts();
        fall();
        rise();
        deliverAsk();
        deliverBid();
        deliverEndsBoth();
        deliverLost();
        deliverRefutes();
        deliverTakesBetterNews();
        lose();
        twice();
        links();
        due.finish();
    }
}
