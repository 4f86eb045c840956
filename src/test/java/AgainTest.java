import java.util.List;

/** Promises 31 to 36: replay, image, back, trace, again, status. */
public final class AgainTest {
    private static final Due due = new Due();
    private static final int MISSING = CrowdRoll.MISSING;
    private static final int BEYOND = CrowdRoll.BEYOND;
    private static final int BELOW = CrowdRoll.BELOW;
    private static final int KIND = CrowdRoll.KIND;
    private static final int COPY = CrowdRoll.COPY;
    private static final int NOTHING = CrowdRoll.NOTHING;
    private static final int DOWN = CrowdRoll.DOWN;
    private static final int NO = CrowdRoll.NO;
    private static final int FULL = CrowdRoll.FULL;
    private static final int NONE = CrowdRoll.NONE;

    /** Every kind of act, with seeds that need all of their bits. */
    private static Roll afterAllActs() {
        Roll x = new Roll();
        x.member(0, Long.MIN_VALUE + 5);
        x.member(1, -1L);
        x.member(2, 0x7FFFFFFF80000001L);
        x.member(3, 0xFFFFFFFFL);
        for (int m = 1; m <= 3; m++) {
            Crowds.meet(x, m, 0);
        }
        x.cut(0, 3);
        x.cut(0, 3);
        for (int i = 0; i < 8; i++) {
            x.turn(i % 4);
            x.deliver(x.underWay(i % 3));
        }
        x.twice(x.underWay(0));
        x.lose(x.underWay(1));
        x.fall(3);
        x.heal(3, 0);
        x.heal(3, 0);
        x.rise(3);
        x.leave(2);
        return x;
    }

    private static void replay() {
        due.sentence("Promise 31", "All ACTS that were done are done anew from the beginning, beside what there is: 1 if all"
                + " members, letters, links are the same then, else 0.");
        due.is("of none", new Roll().replay(), 1);
        Roll x = afterAllActs();
        List<Integer> before = Crowds.tell(x, 4, 2);
        due.is("replay()", x.replay(), 1);
        due.is("replay() again", x.replay(), 1);
        due.holds("nothing changes", Crowds.tell(x, 4, 2).equals(before));
        x = afterAllActs();
        x.turn(9);
        x.member(0, 99L);
        x.deliver(0);
        due.is("refused acts are not done", x.replay(), 1);
    }

    /** Each time from the beginning: links are whole there, and there is room for all the letters and acts. */
    private static void replayOften() {
        due.sentence("Promise 31", "done anew from the beginning");
        Roll x = Crowds.joined(3);
        x.lose(x.join(0, 1));
        x.cut(0, 1);
        x.deliver(x.join(0, 1));
        for (int i = 0; i < 3; i++) {
            due.is("replay() of letters on a link that is cut now", x.replay(), 1);
        }
        x = Rooms.withLetters(1200);
        while (x.callsLeft() > 1) {
            due.is("replay() of a full object", x.replay(), 1);
        }
        due.holds("acts", x.status(0) > 300);
    }

    private static void replayBesideImage() {
        due.sentence("Promise 31", "from the beginning, beside what there is");
        Roll x = Crowds.joined(2);
        int acts = x.image();
        x.turn(0);
        x.turn(1);
        due.is("replay()", x.replay(), 1);
        due.is("the IMAGE is as it was", x.back(), acts);
        due.is("TURNS", x.state(0, 2), 0);
        due.is("replay() after back()", x.replay(), 1);
        x.turn(1);
        x.cut(0, 1);
        due.is("replay() of acts after back()", x.replay(), 1);
        due.is("acts", x.status(0), acts + 2);
        due.is("the link is cut still", x.cut(1, 0), 0);
    }

    private static void image() {
        due.sentence("Promise 32", "An IMAGE of all (members, letters, links, acts, TRACE; not of the TABLE, the WAY, refusals)"
                + " is kept; the one before goes: how many acts it has.");
        due.is("of none", new Roll().image(), 0);
        Roll x = Crowds.star(3);
        x.turn(0);
        x.cut(1, 2);
        due.is("image()", x.image(), 11);
        List<Integer> before = Crowds.tell(x, 3, 5);
        x.heal(1, 2);
        x.cut(0, 1);
        Crowds.turns(x, 0, 9);
        x.deliver(4);
        x.lose(5);
        x.member(50, 1L);
        x.leave(1);
        x.rise(1);
        x.fall(0);
        x.rise(0);
        due.is("back()", x.back(), 11);
        due.holds("all is as it was", Crowds.tell(x, 3, 5).equals(before));
        due.is("a link that was cut", x.cut(1, 2), 0);
        due.is("a link that was whole", x.heal(0, 1), 0);
        due.is("a member that was not made", x.state(50, 0), MISSING);
        due.is("is made for the first time", x.member(50, 1L), 4);
    }

    /** Each thing that is told of members and letters is another one when the image is left. */
    private static void imageOfEachThing() {
        due.sentence("Promise 32", "An IMAGE of all (members, letters, links, acts, TRACE");
        Roll x = Crowds.star(4);
        Crowds.turns(x, 0, 4);
        x.deliver(6);
        x.lose(7);
        List<Integer> before = Crowds.tell(x, 4, 3);
        List<Integer> then = List.of(x.round(0, 0), x.round(0, 1), x.round(0, 2), x.letters(2), x.letters(3));
        int acts = x.image();
        Crowds.leaveStar(x, 2);
        x.fall(0);
        x.rise(0);
        x.rise(2);
        Crowds.meet(x, 3, 0);
        Crowds.meet(x, 2, 0);
        x.lose(8);
        x.deliver(9);
        Crowds.turns(x, 0, 5);
        due.holds("the ROUND is another one", x.round(0, 0) != then.get(0) || x.round(0, 1) != then.get(1));
        due.is("back()", x.back(), acts);
        due.holds("all is as it was", Crowds.tell(x, 4, 3).equals(before));
        due.holds("the ROUND, delivered and LOST", then.equals(
                List.of(x.round(0, 0), x.round(0, 1), x.round(0, 2), x.letters(2), x.letters(3))));
    }

    private static void imageLeavesTableWayRefusals() {
        due.sentence("Promise 32", "not of the TABLE, the WAY, refusals");
        Roll x = Crowds.joined(3);
        x.turn(0);
        x.state(64, 0);
        x.way(2, 1);
        x.image();
        x.copy(0, 0, 2, 3);
        x.way(2, 0);
        x.turn(9);
        x.back();
        due.is("the TABLE", x.table(3), x.round(0, 0));
        due.is("the TABLE", x.table(4), x.round(0, 1));
        due.is("the WAY is of one letter", x.wayAt(1), BEYOND);
        due.is("BEYOND", x.status(BEYOND), 2);
        due.is("MISSING", x.status(MISSING), 1);
        x.turn(9);
        x.back();
        due.is("the latest refusal", x.again(), MISSING);
        x.back();
        due.is("there is none any more", x.again(), NOTHING);
    }

    private static void imageBeforeGoes() {
        due.sentence("Promise 32", "is kept; the one before goes");
        Roll x = Crowds.strangers(2);
        due.is("image()", x.image(), 2);
        x.member(2, 1L);
        due.is("image() anew", x.image(), 3);
        x.member(3, 1L);
        due.is("back()", x.back(), 3);
        due.is("to the latter", x.state(2, 0), 0);
        due.is("not after it", x.state(3, 0), MISSING);
        due.is("an IMAGE of fewer", x.back(), 3);
    }

    private static void back() {
        due.sentence("Promise 33", "All becomes as the IMAGE has it, which stays: how many acts it has.");
        Roll x = Crowds.hub(5, 6L);
        int acts = x.image();
        due.is("acts", acts, 13);
        for (int i = 0; i < 3; i++) {
            due.is("NEXT by the SEED as it was", x.next(0), new Draws(6L).round(Crowds.range(1, 4)).get(0));
            Crowds.turns(x, 0, 3 + i);
            x.fall(2);
            due.is("back()", x.back(), acts);
            due.is("TURNS", x.state(0, 2), 0);
            due.is("UP", x.state(2, 0), 0);
            due.is("acts", x.status(0), acts);
            due.is("letters", x.letters(0), 8);
            due.is("rounds", x.trace(11), 0);
        }
        due.is("the number of the next letter", x.join(0, 1), 8);
        due.is("replay()", x.replay(), 1);
    }

    private static void backToNothing() {
        due.sentence("Promise 33", "All becomes as the IMAGE has it");
        Roll x = new Roll();
        x.image();
        x.member(0, 1L);
        x.member(1, 1L);
        x.cut(0, 1);
        x.join(0, 1);
        due.is("back()", x.back(), 0);
        due.is("members", x.state(0, 0), MISSING);
        due.is("letters", x.letters(0), 0);
        due.is("UNDER WAY", x.underWay(0), NONE);
        due.is("links", x.heal(0, 1), 0);
        due.is("the first member", x.member(1, 2L), 1);
        due.is("its TERM", x.state(1, 1), 1);
    }

    private static void backWithoutImage() {
        due.sentence("Promise 33", "NO: there is none.");
        Roll x = Crowds.joined(2);
        due.is("back()", x.back(), NO);
        due.is("acts", x.status(0), 5);
        due.is("back() again", x.back(), NO);
        x.image();
        due.is("back() with one", x.back(), 5);
        due.is("refused", x.status(NO), 2);
    }

    private static void traces(Roll x, int... want) {
        for (int what = 0; what < want.length; what++) {
            due.is("trace(" + what + ")", x.trace(what), want[what]);
        }
    }

    private static void trace() {
        due.sentence("Promise 34", "How often, in acts that were done (not by replay()), a body was run: 0 .. 3 pieces taken of"
                + " KIND ALIVE .. LEFT (looked at, whether they came to the ROLL or not), 4 .. 7 pieces put on a letter, by"
                + " KIND (copies of twice() aside), 8 doubts whose age was looked at in a TURN, 9 of these that became GONE,"
                + " 10 refutations, 11 ROUNDS made.");
        Roll x = Crowds.joined(2);
        traces(x, 3, 0, 0, 0, 3, 0, 0, 0, 0, 0, 0, 0);
        Crowds.turns(x, 0, 3);
        due.part("three ASKS, the last one with a doubt");
        traces(x, 3, 0, 0, 0, 8, 1, 0, 0, 0, 0, 0, 3);
        Crowds.turns(x, 0, 5);
        due.part("a doubt that is looked at in TURNS 4 to 8, and GONE then; a ROUND of none is made");
        traces(x, 3, 0, 0, 0, 12, 5, 0, 0, 5, 1, 0, 8);
        x.turn(0);
        due.part("GONE is looked at no more");
        traces(x, 3, 0, 0, 0, 12, 5, 0, 0, 5, 1, 0, 9);
        int gone = x.join(0, 1);
        due.part("its own news is TOLD 7 times by then, GONE goes first");
        traces(x, 3, 0, 0, 0, 13, 5, 1, 0, 5, 1, 0, 9);
        x.deliver(gone);
        due.part("taken: ALIVE of 0, which does not come, and GONE of 1, which is refuted; put: a FULL of two");
        traces(x, 4, 0, 1, 0, 15, 5, 1, 0, 5, 1, 1, 9);
        x.deliver(4);
        due.part("taken: ALIVE of 0, DOUBTED of 1 of a TERM below; put: an ANSWER of two");
        traces(x, 5, 1, 1, 0, 17, 5, 1, 0, 5, 1, 1, 9);
        x.replay();
        due.part("not by replay()");
        traces(x, 5, 1, 1, 0, 17, 5, 1, 0, 5, 1, 1, 9);
    }

    private static void traceOfCopies() {
        due.sentence("Promise 34", "4 .. 7 pieces put on a letter, by KIND (copies of twice() aside)");
        Roll x = Crowds.joined(2);
        x.leave(1);
        traces(x, 3, 0, 0, 0, 4, 0, 0, 1);
        int farewell = Crowds.lastLetter(x);
        int copy = x.twice(farewell);
        traces(x, 3, 0, 0, 0, 4, 0, 0, 1);
        x.deliver(farewell);
        x.deliver(copy);
        due.part("taken they count, whether they came or not");
        traces(x, 5, 0, 0, 2, 4, 0, 0, 1);
    }

    private static void traceOfActsThatWereDone() {
        due.sentence("Promise 34", "in acts that were done (not by replay())");
        Roll x = Crowds.joined(3);
        x.next(0);
        x.next(1);
        due.is("next() makes no ROUND", x.trace(11), 0);
        x.cut(0, 1);
        int taken = x.trace(0);
        x.deliver(x.join(0, 1));
        due.is("of a letter that is LOST none is taken", x.trace(0), taken);
        x.lose(x.join(0, 2));
        due.is("nor of one that is lost", x.trace(0), taken);
        x.fall(2);
        int put = x.trace(4);
        x.turn(2);
        x.join(2, 0);
        due.is("a refused TURN makes no ROUND", x.trace(11), 0);
        due.is("a refused JOIN puts nothing", x.trace(4), put);
        x.turn(0);
        x.turn(0);
        due.is("a ROUND serves more than one TURN", x.trace(11), 1);
    }

    private static void traceOfNothing() {
        due.sentence("Promise 34", "NO: another number.");
        Roll x = Crowds.joined(2);
        for (int what : new int[] {-1, 12, 13, Integer.MIN_VALUE, Integer.MAX_VALUE}) {
            due.is("trace(" + what + ")", x.trace(what), NO);
        }
        due.is("trace(11)", x.trace(11), 0);
    }

    private static void refusedThenAgain(Roll x, String name, int a, int b, int c, int d, int want) {
        due.is(name, x.call(name, a, b, c, d), want);
        due.is("again() after " + name, x.again(), want);
        due.is("again() once more", x.again(), NOTHING);
    }

    private static void again() {
        due.sentence("Promise 35", "The latest refusal, of any call, is thrown once more: its answer, and there is none any more;"
                + " NOTHING: there is none.");
        due.is("at first", new Roll().again(), NOTHING);
        Roll x = Crowds.joined(2);
        due.is("after acts", x.again(), NOTHING);
        for (String name : new String[] {"member", "join", "leave", "turn", "fall", "rise", "deliver", "lose", "twice", "cut",
            "heal", "underWay", "letter", "carries", "state", "news", "as", "round", "next", "copy", "table", "count", "way",
            "wayAt", "forge", "check"}) {
            refusedThenAgain(x, name, -1, 0, 0, 0, BEYOND);
        }
        for (String name : new String[] {"join", "leave", "turn", "fall", "rise", "deliver", "lose", "twice", "state", "news",
            "as", "round", "next", "copy", "way", "check"}) {
            boolean ofLetter = List.of("deliver", "lose", "twice").contains(name);
            refusedThenAgain(x, name, ofLetter ? 0 : 9, 0, 0, 0, MISSING);
        }
        x = Rooms.withLetters(1197);
        refusedThenAgain(x, "turn", 0, 0, 0, 0, FULL);
    }

    private static void againOfTheRest() {
        due.sentence("Promise 35", "The latest refusal, of any call");
        Roll x = Crowds.joined(3);
        x.fall(2);
        for (String name : new String[] {"leave", "turn", "fall", "next"}) {
            refusedThenAgain(x, name, 2, 0, 0, 0, DOWN);
        }
        refusedThenAgain(x, "join", 2, 0, 0, 0, DOWN);
        for (String name : new String[] {"member", "join", "rise", "cut", "heal"}) {
            refusedThenAgain(x, name, 0, 0, 0, 0, NO);
        }
        for (String name : new String[] {"letters", "apart", "trace", "status"}) {
            refusedThenAgain(x, name, 99, 0, 0, 0, NO);
        }
        for (String name : new String[] {"letter", "state", "count"}) {
            refusedThenAgain(x, name, 0, 99, 0, 0, NO);
        }
        for (String name : new String[] {"carries", "news", "as"}) {
            refusedThenAgain(x, name, 0, 0, 99, 0, NO);
        }
        refusedThenAgain(x, "back", 0, 0, 0, 0, NO);
        refusedThenAgain(x, "round", 0, 0, 0, 0, BEYOND);
        refusedThenAgain(x, "carries", 0, 9, 0, 0, BEYOND);
        refusedThenAgain(x, "news", 0, 64, 0, 0, BEYOND);
        refusedThenAgain(x, "news", 0, 9, 0, 0, MISSING);
        refusedThenAgain(x, "as", 0, 9, 1, 0, MISSING);
        refusedThenAgain(x, "way", 0, 9, 0, 0, MISSING);
        refusedThenAgain(x, "copy", 0, 0, -1, 0, BELOW);
        refusedThenAgain(x, "copy", 0, 0, 1, 0, COPY);
        refusedThenAgain(x, "as", 0, 0, 2, 0, KIND);
        x.again();
        due.part("and all of these were counted");
        statusIs(x, 3, 3, 1, 1, 1, 0, 5, 16, 0);
    }

    private static void latest() {
        due.sentence("Promise 35", "The latest refusal");
        Roll x = Crowds.joined(2);
        x.turn(9);
        x.turn(64);
        due.is("of two", x.again(), BEYOND);
        due.is("the one before does not come back", x.again(), NOTHING);
        x.trace(12);
        x.turn(0);
        x.state(0, 0);
        x.underWay(9);
        x.apart(0);
        x.image();
        x.back();
        x.replay();
        due.is("what is not refused leaves it", x.again(), NO);
        x.deliver(-1);
        x.again();
        x.again();
        due.is("NOTHING is no refusal", x.again(), NOTHING);
    }

    private static void statusIs(Roll x, int... want) {
        for (int by = MISSING; by >= FULL; by--) {
            due.is("status(" + by + ")", x.status(by), want[-2 - by]);
        }
    }

    private static void status() {
        due.sentence("Promise 36", "How many calls were refused: BY what they answered, -2 .. -10 (not again()); how many acts"
                + " were done (0).");
        Roll x = Crowds.joined(2);
        statusIs(x, 0, 0, 0, 0, 0, 0, 0, 0, 0);
        due.is("acts", x.status(0), 5);
        x.state(7, 0);
        x.turn(7);
        x.state(64, 0);
        x.copy(0, 0, -1, 0);
        x.as(0, 0, 2);
        x.copy(0, 0, 99, 0);
        x.leave(1);
        x.turn(1);
        x.next(1);
        x.back();
        statusIs(x, 2, 1, 1, 1, 1, 0, 2, 1, 0);
        due.is("again()", x.again(), NO);
        due.is("again()", x.again(), NOTHING);
        due.part("again() is not counted");
        statusIs(x, 2, 1, 1, 1, 1, 0, 2, 1, 0);
        due.is("acts", x.status(0), 6);
        x.deliver(x.underWay(9));
        x.underWay(0);
        due.part("answers of NONE are not");
        statusIs(x, 2, 2, 1, 1, 1, 0, 2, 1, 0);
    }

    private static void statusOfActs() {
        due.sentence("Promise 36", "how many acts were done (0)");
        Roll x = Crowds.strangers(2);
        x.cut(0, 1);
        x.cut(0, 1);
        due.is("a cut of a link that was cut is done", x.status(0), 4);
        x.join(0, 1);
        due.is("deliver(0)", x.deliver(0), NONE);
        due.is("so is one that was LOST", x.status(0), 6);
        x.heal(0, 1);
        x.heal(0, 1);
        x.turn(9);
        x.rise(0);
        due.is("a refused one is not", x.status(0), 8);
        x.image();
        x.replay();
        x.next(0);
        x.agree();
        due.is("nor what is no act", x.status(0), 8);
    }

    private static void statusOfFull() {
        due.sentence("Promise 36", "BY what they answered, -2 .. -10");
        Roll x = Rooms.withLetters(1197);
        x.turn(0);
        x.cut(0, 1);
        due.is("status(-10)", x.status(-10), 2);
        due.is("status(-9)", x.status(-9), 0);
    }

    private static void statusOfNothing() {
        due.sentence("Promise 36", "NO: another number.");
        Roll x = new Roll();
        int[] wrong = {-1, 1, 2, 10, -11, -12, Integer.MIN_VALUE, Integer.MAX_VALUE};
        for (int by : wrong) {
            due.is("status(" + by + ")", x.status(by), NO);
        }
        due.is("these are counted, too", x.status(NO), wrong.length);
        due.is("again()", x.again(), NO);
    }

    public static void main(String[] args) {
        replay();
        replayOften();
        replayBesideImage();
        image();
        imageOfEachThing();
        imageLeavesTableWayRefusals();
        imageBeforeGoes();
        back();
        backToNothing();
        backWithoutImage();
        trace();
        traceOfCopies();
        traceOfActsThatWereDone();
        traceOfNothing();
        again();
        againOfTheRest();
        latest();
        status();
        statusOfActs();
        statusOfFull();
        statusOfNothing();
        due.finish();
    }
}
