import java.util.List;

/** "==== 2" of the document: letters, the news on them, and what comes of them. */
public final class PostTest {
    private static final Due due = new Due();
    private static final String PART = "==== 2";
    private static final int NONE = CrowdRoll.NONE;
    private static final int ASK = 1;
    private static final int BID = 2;
    private static final int ANSWER = 3;
    private static final int PASSED = 4;
    private static final int JOIN = 5;
    private static final int FULL = 6;
    private static final int UNDER_WAY = 0;
    private static final int DELIVERED = 1;
    private static final int LOST = 2;

    private static void numbers() {
        due.sentence(PART, "LETTERS are numbered from 0 as they are sent; each has a KIND, who sends it, to whom, ABOUT (a"
                + " member or NONE), and NEWS.");
        Roll x = Crowds.strangers(3);
        due.is("the first", x.join(2, 1), 0);
        due.is("the second", x.join(1, 2), 1);
        due.is("a copy is one, too", x.twice(0), 2);
        x.deliver(1);
        due.letter(x, 3, FULL, 2, 1, NONE, 2);
        x.lose(0);
        due.is("a lost one keeps its number", x.join(0, 1), 4);
        due.letter(x, 0, JOIN, 2, 1, NONE, 1);
        due.letter(x, 4, JOIN, 0, 1, NONE, 1);
    }

    /** Of three that know each other 0 asks one and bids the other one to help; answers the BID, an ASK is behind it. */
    private static int bidTold(Roll x) {
        x.turn(0);
        int asked = x.state(0, 8);
        int first = Crowds.lastLetter(x);
        due.letter(x, first, ASK, 0, asked, NONE);
        x.turn(0);
        int bid = first + 1;
        int helper = 3 - asked;
        due.letter(x, bid, BID, 0, helper, asked);
        due.letter(x, bid + 1, ASK, 0, helper, NONE);
        return bid;
    }

    private static void kinds() {
        due.sentence(PART, "KINDS: 1 ASK, 2 BID, 3 ANSWER, 4 PASSED, 5 JOIN, 6 FULL.");
        Roll x = Crowds.joined(3);
        due.is("JOIN", x.letter(0, 0), JOIN);
        due.is("FULL", x.letter(1, 0), FULL);
        int bid = bidTold(x);
        int ask = bid + 2;
        x.deliver(bid);
        due.is("ASK", x.letter(ask, 0), ASK);
        x.deliver(ask);
        due.is("ANSWER", x.letter(ask + 1, 0), ANSWER);
        x.deliver(ask + 1);
        due.is("PASSED", x.letter(ask + 2, 0), PASSED);
    }

    private static void leastToldFirst() {
        due.sentence(PART, "those TOLD least first, of equal ones by the members' numbers; each is TOLD once more by that.");
        Roll x = Crowds.hub(9, 1L);
        List<List<Integer>> want = List.of(List.of(0, 1, 2, 3, 4, 5), List.of(6, 7, 8, 0, 1, 2),
                List.of(3, 4, 5, 6, 7, 8), List.of(0, 1, 2, 3, 4, 5));
        int[] told = new int[9];
        for (List<Integer> whom : want) {
            due.pieces(x, x.join(0, 1), whom);
            for (int m : whom) {
                told[m]++;
            }
            for (int m = 0; m < 9; m++) {
                due.is("TOLD of " + m, x.news(0, m, 2), told[m]);
            }
        }
        x = Crowds.hub(4, 1L);
        x.join(0, 1);
        x.member(63, 1L);
        x.member(20, 1L);
        x.deliver(x.join(63, 0));
        x.deliver(x.join(20, 0));
        due.part("new ones go first though their numbers are greater");
        due.pieces(x, x.join(0, 1), List.of(20, 63, 0, 1, 2, 3));
    }

    /** A turn's letters are sent one after the other: each is told what the one before left. */
    private static void letterByLetter() {
        due.sentence(PART, "each is TOLD once more by that.");
        Roll x = Crowds.hub(9, 1L);
        x.turn(0);
        due.pieces(x, 16, List.of(0, 1, 2, 3, 4, 5));
        x.turn(0);
        due.pieces(x, 17, List.of(6, 7, 8, 0, 1, 2));
        due.pieces(x, 18, List.of(3, 4, 5, 6, 7, 8));
        due.pieces(x, 19, List.of(0, 1, 2, 3, 4, 5));
        due.pieces(x, 20, List.of(6, 7, 8, 0, 1, 2));
    }

    private static void sixAtMost() {
        due.sentence(PART, "six at most");
        for (int n = 1; n <= 8; n++) {
            Roll x = Crowds.hub(n, 1L);
            x.member(63, 1L);
            due.pieces(x, x.join(0, 63), Crowds.range(0, Math.min(n, 6) - 1));
        }
    }

    private static void receiverToo() {
        due.sentence(PART, "of the sender's ROLL (of the receiver, too)");
        Roll x = Crowds.hub(3, 1L);
        due.pieces(x, x.join(0, 2), List.of(0, 1, 2));
        x.deliver(1);
        x.turn(0);
        int ask = Crowds.lastLetter(x);
        x.deliver(ask);
        due.letter(x, ask + 1, ANSWER, x.letter(ask, 2), 0);
        due.is("an ANSWER has the receiver's news, too", x.carries(ask + 1, 0, 0), 0);
    }

    private static void toldEightTimes() {
        due.sentence(PART, "those TOLD less than 8 times");
        Roll x = Crowds.strangers(2);
        for (int told = 0; told < 8; told++) {
            due.is("TOLD", x.news(0, 0, 2), told);
            due.pieces(x, x.join(0, 1), List.of(0));
        }
        due.is("TOLD", x.news(0, 0, 2), 8);
        int bare = x.join(0, 1);
        due.pieces(x, bare, List.of());
        due.is("TOLD", x.news(0, 0, 2), 8);
        due.is("a bare letter does its work", x.deliver(bare), 1);
        due.is("nothing came", x.state(1, 3), 1);
        x.fall(0);
        x.rise(0);
        due.part("news that is said anew is told anew");
        due.pieces(x, x.join(0, 1), List.of(0));
    }

    /** Seven are told in turn: some reach 8 before the others. */
    private static void fewerThanSix() {
        due.sentence(PART, "The NEWS on a letter: of the sender's ROLL (of the receiver, too) those TOLD less than 8"
                + " times, six at most, those TOLD least first, of equal ones by the members' numbers; each is TOLD once"
                + " more by that.");
        Roll x = Crowds.hub(7, 1L);
        for (int i = 0; i < 9; i++) {
            due.is("pieces of letter " + i, x.letter(x.join(0, 1), 4), 6);
        }
        due.part("54 of 56 tellings are done, two are left");
        due.pieces(x, x.join(0, 1), List.of(5, 6));
        due.pieces(x, x.join(0, 1), List.of());
    }

    private static void whole() {
        due.sentence(PART, "On a FULL all of the ROLL, by numbers, none is TOLD more by it.");
        Roll x = Crowds.hub(64, 1L);
        due.pieces(x, 125, Crowds.range(0, 63));
        due.is("TOLD", x.news(0, 0, 2), 0);
        due.is("TOLD", x.news(0, 63, 2), 0);
        x = Crowds.hub(3, 1L);
        for (int i = 0; i < 9; i++) {
            x.join(0, 1);
        }
        due.is("TOLD", x.news(0, 2, 2), 8);
        x.deliver(x.join(1, 0));
        due.part("those TOLD 8 times are on it");
        due.pieces(x, Crowds.lastLetter(x), List.of(0, 1, 2));
        due.is("TOLD", x.news(0, 2, 2), 8);
        due.is("leave(0)", x.leave(0), 2);
        due.pieces(x, Crowds.lastLetter(x), List.of(0, 1, 2));
        due.is("its own word is not TOLD by it", x.news(0, 0, 2), 0);
    }

    private static void keeps() {
        due.sentence(PART, "A piece on a letter keeps the letter that brought it to the sender.");
        Roll x = Crowds.joined(3);
        due.piece(x, 3, 0, 0, 1, 1, NONE);
        due.piece(x, 3, 1, 1, 1, 1, 0);
        due.piece(x, 3, 2, 2, 1, 1, 2);
        x.fall(1);
        x.rise(1);
        int greater = x.join(1, 0);
        x.deliver(greater);
        due.part("a piece that was sent keeps what it had then");
        due.piece(x, 3, 1, 1, 1, 1, 0);
        due.piece(x, greater + 1, 1, 1, 1, 2, greater);
    }

    private static void underWay() {
        due.sentence(PART, "A letter that was sent is UNDER WAY till it is delivered or lost.");
        Roll x = Crowds.strangers(2);
        x.join(0, 1);
        x.join(0, 1);
        x.turn(0);
        x.fall(0);
        due.is("letter(0, 5)", x.letter(0, 5), UNDER_WAY);
        due.is("letter(1, 5)", x.letter(1, 5), UNDER_WAY);
        due.is("UNDER WAY", x.letters(1), 2);
        x.deliver(0);
        due.is("letter(0, 5)", x.letter(0, 5), DELIVERED);
        x.lose(1);
        due.is("letter(1, 5)", x.letter(1, 5), LOST);
        due.is("the FULL", x.letter(2, 5), UNDER_WAY);
    }

    private static void lostOnDelivery() {
        due.sentence(PART, "Delivered it is gone (LOST) if the link of both is cut, or the receiver is not UP.");
        Roll x = Crowds.strangers(4);
        for (int i = 0; i < 8; i++) {
            x.join(1, 2);
        }
        x.cut(1, 2);
        lost(x, 0, true);
        x.heal(2, 1);
        x.cut(2, 1);
        lost(x, 1, true);
        x.heal(1, 2);
        x.cut(1, 3);
        x.cut(2, 0);
        lost(x, 2, false);
        x.fall(2);
        lost(x, 3, true);
        x.rise(2);
        x.leave(2);
        lost(x, 4, true);
        x.rise(2);
        lost(x, 5, false);
        x.fall(1);
        lost(x, 6, false);
        x.rise(1);
        x.leave(1);
        lost(x, 7, false);
        due.is("what is LOST so is no refusal", x.again(), CrowdRoll.NOTHING);
    }

    private static void lost(Roll x, int l, boolean so) {
        int sent = x.letters(0);
        int taken = x.trace(0) + x.trace(3);
        due.is("deliver(" + l + ")", x.deliver(l), so ? NONE : 1);
        due.is("letter(" + l + ", 5)", x.letter(l, 5), so ? LOST : DELIVERED);
        due.is("letters sent by " + l, x.letters(0) - sent, so ? 0 : 1);
        due.is("pieces taken of " + l, x.trace(0) + x.trace(3) - taken, so ? 0 : x.letter(l, 4));
    }

    private static void takesAll() {
        due.sentence(PART, "Else the receiver takes all its NEWS, in order;");
        Roll x = Crowds.hub(64, 1L);
        int taken = x.trace(0);
        due.is("deliver a FULL of 64", x.deliver(125), 0);
        due.is("taken", x.trace(0) - taken, 64);
        due.is("its ROLL", x.state(63, 3), 64);
        due.news(x, 63, 62, 1, 1, 0, 0, 125);
        due.news(x, 63, 63, 1, 1, 1, 0, NONE);
    }

    /** The answer to a letter has on it what that letter brought: the doubt is refuted before it is sent. */
    private static void takesBeforeItSends() {
        due.sentence(PART, "the receiver takes all its NEWS, in order; then by KIND");
        Roll x = Crowds.joined(2);
        Crowds.turns(x, 0, 3);
        int ask = Crowds.lastLetter(x);
        due.piece(x, ask, 0, 1, 2, 1);
        x.deliver(ask);
        int answer = ask + 1;
        due.letter(x, answer, ANSWER, 1, 0, NONE);
        due.piece(x, answer, 1, 1, 1, 2, NONE);
        x = Crowds.strangers(2);
        x.deliver(x.join(1, 0));
        due.pieces(x, 1, List.of(0, 1));
    }

    private static void ask() {
        due.sentence(PART, "ASK: it sends ANSWER to the sender, ABOUT as there.");
        Roll x = Crowds.joined(3);
        int bid = bidTold(x);
        int asked = x.letter(bid, 3);
        due.is("an ASK of its own", x.deliver(bid - 1), 1);
        due.letter(x, bid + 2, ANSWER, asked, 0, NONE);
        x.deliver(bid);
        due.is("an ASK for another one", x.deliver(bid + 3), 1);
        due.letter(x, bid + 4, ANSWER, asked, 3 - asked, 0);
    }

    private static void bid() {
        due.sentence(PART, "BID, ABOUT x: it sends ASK to x, ABOUT the BID's sender.");
        Roll x = Crowds.joined(3);
        int bid = bidTold(x);
        int asked = x.letter(bid, 3);
        due.is("deliver the BID", x.deliver(bid), 1);
        due.letter(x, bid + 2, ASK, 3 - asked, asked, 0);
        due.is("the helper does not wait for it", x.state(3 - asked, 8), NONE);
    }

    /** Member 0 is a number like others: ABOUT 0 is not ABOUT NONE, for whoever is asked, helps or bids. */
    private static void aboutMember0() {
        due.sentence(PART, "ABOUT (a member or NONE)");
        Roll x = Crowds.joined(3);
        x.deliver(x.join(1, 2));
        int bid = NONE;
        for (int i = 0; i < 3 && bid == NONE; i++) {
            int first = x.letters(0);
            x.turn(2);
            bid = x.letter(first, 0) == BID && x.letter(first, 3) == 0 ? first : NONE;
        }
        due.letter(x, bid, BID, 2, 1, 0);
        int ask = x.letters(0);
        x.deliver(bid);
        due.letter(x, ask, ASK, 1, 0, 2);
        x.deliver(ask);
        due.letter(x, ask + 1, ANSWER, 0, 1, 2);
        x.deliver(ask + 1);
        due.letter(x, ask + 2, PASSED, 1, 2, 0);
        due.is("BID for", x.state(2, 9), 0);
        x.deliver(ask + 2);
        due.is("BID for no more", x.state(2, 9), NONE);
    }

    private static void answerAboutNone() {
        due.sentence(PART, "ANSWER, ABOUT NONE: the sender is ANSWERED;");
        Roll x = Crowds.joined(2);
        x.turn(0);
        x.deliver(2);
        due.is("it waits", x.state(0, 8), 1);
        due.is("deliver the ANSWER", x.deliver(3), 0);
        due.is("it waits no more", x.state(0, 8), NONE);
    }

    /** The helper waits for x itself: an ANSWER that is for another one does not end that. */
    private static void answerAboutOne() {
        due.sentence(PART, "ABOUT z: it sends PASSED to z, ABOUT the sender.");
        Roll x = Crowds.joined(3);
        Crowds.meet(x, 1, 0);
        int bid = bidTold(x);
        int asked = x.letter(bid, 3);
        int helper = 3 - asked;
        for (int i = 0; i < 2 && x.state(helper, 8) != asked; i++) {
            x.turn(helper);
        }
        due.is("the helper waits for it", x.state(helper, 8), asked);
        int ask = x.letters(0);
        x.deliver(bid);
        x.deliver(ask);
        due.is("deliver the ANSWER", x.deliver(ask + 1), 1);
        due.letter(x, ask + 2, PASSED, helper, 0, asked);
        due.is("the helper waits still", x.state(helper, 8), asked);
    }

    private static void passed() {
        due.sentence(PART, "PASSED, ABOUT x: x is ANSWERED.");
        Roll x = Crowds.joined(3);
        int bid = bidTold(x);
        int asked = x.letter(bid, 3);
        int helper = 3 - asked;
        x.deliver(bid);
        x.deliver(bid + 2);
        x.deliver(bid + 3);
        due.is("BID for", x.state(0, 9), asked);
        due.is("asked", x.state(0, 8), helper);
        due.is("deliver the PASSED", x.deliver(bid + 4), 0);
        due.is("BID for no more", x.state(0, 9), NONE);
        due.is("its sender is not ANSWERED", x.state(0, 8), helper);
    }

    private static void join() {
        due.sentence(PART, "JOIN: it sends FULL to the sender.");
        Roll x = Crowds.strangers(2);
        x.join(1, 0);
        due.is("deliver the JOIN", x.deliver(0), 1);
        due.letter(x, 1, FULL, 0, 1, NONE, 2);
        due.is("a FULL sends nothing", x.deliver(1), 0);
        due.is("letters", x.letters(0), 2);
    }

    private static void answered() {
        due.sentence(PART, "ANSWERED: if the receiver waits for that one it does not any more.");
        Roll x = Crowds.joined(3);
        x.turn(0);
        int first = x.state(0, 8);
        int ask = Crowds.lastLetter(x);
        x.deliver(ask);
        int late = x.twice(ask + 1);
        x.deliver(ask + 1);
        due.is("it waits for none", x.state(0, 8), NONE);
        due.is("no BID for one that ANSWERED", x.turn(0), 1);
        due.is("it waits for the other", x.state(0, 8), 3 - first);
        x.deliver(late);
        due.is("an ANSWER of one that it does not wait for", x.state(0, 8), 3 - first);
        x.deliver(x.join(3 - first, 0));
        due.is("a JOIN is no ANSWER", x.state(0, 8), 3 - first);
        Crowds.meet(x, 0, 3 - first);
        due.is("a FULL is no ANSWER", x.state(0, 8), 3 - first);
    }

    /** An ASK that comes from the one that it waits for is no answer either. */
    private static void askIsNoAnswer() {
        due.sentence(PART, "ANSWERED: if the receiver waits for that one it does not any more.");
        Roll x = Crowds.joined(2);
        x.turn(0);
        x.turn(1);
        due.is("deliver the ASK of 1", x.deliver(3), 1);
        due.is("0 waits still", x.state(0, 8), 1);
    }

    public static void main(String[] args) {
        numbers();
        kinds();
        leastToldFirst();
        letterByLetter();
        sixAtMost();
        receiverToo();
        toldEightTimes();
        fewerThanSix();
        whole();
        keeps();
        underWay();
        lostOnDelivery();
        takesAll();
        takesBeforeItSends();
        ask();
        bid();
        aboutMember0();
        answerAboutNone();
        answerAboutOne();
        passed();
        join();
        answered();
        askIsNoAnswer();
        due.finish();
    }
}
