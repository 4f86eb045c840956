import java.util.List;

/** Promises 1 to 12: a new object and the acts. */
public final class ActsTest {
    private static final Due due = new Due();
    private static final int MISSING = CrowdRoll.MISSING;
    private static final int BEYOND = CrowdRoll.BEYOND;
    private static final int DOWN = CrowdRoll.DOWN;
    private static final int NO = CrowdRoll.NO;
    private static final int NONE = CrowdRoll.NONE;
    private static final int FALLEN = 1;
    private static final int AWAY = 2;
    private static final int JOIN = 5;
    private static final int FULL_LETTER = 6;

    private static void newObject() {
        due.sentence("Promise 1", "No members, letters, acts; no link is cut; the TABLE has 16 numbers NONE.");
        Roll x = new Roll();
        for (int what = 0; what <= 4; what++) {
            due.is("letters(" + what + ")", x.letters(what), 0);
        }
        for (int i = 0; i < 16; i++) {
            due.is("table(" + i + ")", x.table(i), NONE);
        }
        due.is("table(16)", x.table(16), BEYOND);
        for (int m = 0; m < 64; m++) {
            due.is("state(" + m + ", 0)", x.state(m, 0), MISSING);
        }
        for (int what = 0; what <= 11; what++) {
            due.is("trace(" + what + ")", x.trace(what), 0);
        }
        due.is("underWay(0)", x.underWay(0), NONE);
        due.is("letter(0, 0)", x.letter(0, 0), BEYOND);
        due.is("acts", x.status(0), 0);
        due.is("the first member", new Roll().member(63, 0L), 1);
        due.is("the first act", x.image(), 0);
        for (int b = 1; b < 64; b++) {
            due.is("heal(0, " + b + ")", x.heal(0, b), 0);
            due.is("heal(" + b + ", 63)", x.heal(b, 63), b == 63 ? NO : 0);
        }
    }

    /** Objects have nothing in common. */
    private static void twoObjects() {
        due.sentence("Promise 1", "No members, letters, acts; no link is cut");
        Roll x = Crowds.joined(3);
        x.cut(0, 1);
        x.turn(0);
        Roll y = new Roll();
        due.is("members", y.state(0, 0), MISSING);
        due.is("letters", y.letters(0), 0);
        due.is("acts", y.status(0), 0);
        due.is("links", y.cut(0, 1), 1);
        due.is("members", y.member(0, 1L), 1);
    }

    private static void member() {
        due.sentence("Promise 2", "Member m is made, UP, with a SEED: how many there are.");
        Roll x = new Roll();
        for (int m = 63; m >= 0; m--) {
            due.is("member(" + m + ")", x.member(m, m % 2 == 0 ? Long.MIN_VALUE : Long.MAX_VALUE), 64 - m);
            due.is("UP", x.state(m, 0), 0);
        }
        due.is("member(64)", x.member(64, 1L), BEYOND);
        x = new Roll();
        x.member(5, 1L);
        x.member(6, 1L);
        x.fall(5);
        x.leave(6);
        due.is("those that are not UP are there, too", x.member(7, 1L), 3);
    }

    private static void memberWasMade() {
        due.sentence("Promise 2", "NO: it was made.");
        Roll x = Crowds.hub(6, 5L);
        due.is("member(0), UP", x.member(0, 99L), NO);
        x.turn(0);
        due.part("its SEED is the first one");
        due.round(x, 0, new Draws(5L).round(Crowds.range(1, 5)));
        x.fall(1);
        x.leave(2);
        due.is("member(1), FALLEN", x.member(1, 9L), NO);
        due.is("member(2), AWAY", x.member(2, 9L), NO);
        due.is("it is FALLEN still", x.state(1, 0), FALLEN);
        due.is("none is more", x.member(60, 9L), 7);
    }

    private static void join() {
        due.sentence("Promise 3", "m, UP, sends JOIN to y, ABOUT NONE: the letter's number.");
        Roll x = Crowds.strangers(3);
        due.is("join(1, 0)", x.join(1, 0), 0);
        due.letter(x, 0, JOIN, 1, 0, NONE, 1, 0, NONE);
        due.is("told once more", x.news(1, 1, 2), 1);
        due.is("join(1, 2)", x.join(1, 2), 1);
        x.fall(2);
        due.is("join(2, 0), FALLEN", x.join(2, 0), DOWN);
        due.is("y need not be UP", x.join(1, 2), 2);
        x.cut(0, 1);
        due.is("nor the link whole", x.join(0, 1), 3);
        due.is("join(1, 3)", x.join(1, 3), MISSING);
        due.is("join(3, 1)", x.join(3, 1), MISSING);
        due.is("join(1, 64)", x.join(1, 64), BEYOND);
        due.is("join(-1, 1)", x.join(-1, 1), BEYOND);
        due.is("letters", x.letters(0), 4);
        due.is("nobody waits for that", x.state(1, 8), NONE);
    }

    private static void joinOneself() {
        due.sentence("Promise 3", "NO: y is m.");
        Roll x = new Roll();
        x.member(0, 1L);
        x.member(63, 1L);
        due.is("join(0, 0)", x.join(0, 0), NO);
        due.is("join(63, 63)", x.join(63, 63), NO);
        due.is("letters", x.letters(0), 0);
        due.is("told", x.news(0, 0, 2), 0);
    }

    private static void leave() {
        due.sentence("Promise 4", "m, UP, says LEFT of itself, with its TERM, is AWAY, and sends FULL to 3 others, drawn as"
                + " for BIDS (but none is left out but itself): how many it sent.");
        for (int others = 0; others <= 8; others++) {
            Roll x = Crowds.hub(others + 1, 11L);
            int first = x.letters(0);
            List<Integer> drawn = new Draws(11L).three(Crowds.range(1, others));
            due.is("leave(0) of " + others + " others", x.leave(0), Math.min(3, others));
            due.is("AWAY", x.state(0, 0), AWAY);
            due.news(x, 0, 0, 4, 1, 0, 0, NONE);
            for (int i = 0; i < drawn.size(); i++) {
                due.letter(x, first + i, FULL_LETTER, 0, drawn.get(i), NONE, others + 1, 0, NONE);
                due.piece(x, first + i, 0, 0, 4, 1, NONE);
            }
        }
        Roll x = Crowds.joined(2);
        x.fall(1);
        x.rise(1);
        x.leave(1);
        due.news(x, 1, 1, 4, 2);
        due.is("AWAY, leave(1)", x.leave(1), DOWN);
        x.fall(0);
        due.is("FALLEN, leave(0)", x.leave(0), DOWN);
        due.is("leave(2)", x.leave(2), MISSING);
        due.is("leave(64)", x.leave(64), BEYOND);
    }

    private static void leaveTellsTheWaitedFor() {
        due.sentence("Promise 4", "(but none is left out but itself)");
        Roll x = Crowds.joined(2);
        x.turn(0);
        x.turn(0);
        due.is("asked", x.state(0, 8), 1);
        due.is("BID for", x.state(0, 9), 1);
        due.is("leave(0)", x.leave(0), 1);
        due.is("its receiver", x.letter(Crowds.lastLetter(x), 2), 1);
        x = Crowds.joined(2);
        Crowds.turns(x, 0, 3);
        due.is("one that is DOUBTED is told", x.leave(0), 1);
        x = Crowds.joined(2);
        Crowds.turns(x, 0, 8);
        due.is("one that is GONE is not", x.leave(0), 0);
        x = Crowds.star(3);
        Crowds.leaveStar(x, 2);
        due.is("nor one that LEFT", x.leave(0), 1);
    }

    private static void leaveEndsWaiting() {
        due.sentence("Promise 4", "It waits for none, has no ROUND any more.");
        Roll x = Crowds.star(4);
        Crowds.turns(x, 0, 2);
        due.is("a ROUND", x.state(0, 10), 3);
        x.leave(0);
        for (int what = 8; what <= 9; what++) {
            due.is("state(0, " + what + ")", x.state(0, what), NONE);
        }
        due.is("ROUND", x.state(0, 10), 0);
        due.is("place", x.state(0, 11), 0);
        due.is("round(0, 0)", x.round(0, 0), BEYOND);
        x.rise(0);
        int rounds = x.trace(11);
        due.is("a TURN then has nothing to BID for", x.turn(0), 1);
        due.is("nor to doubt", x.state(0, 5), 0);
        due.is("and makes a ROUND", x.trace(11), rounds + 1);
    }

    private static void turn() {
        due.sentence("Promise 5", "A TURN of m, UP: how many letters it sent.");
        due.is("none, alone", Crowds.strangers(1).turn(0), 0);
        for (int others = 1; others <= 6; others++) {
            Roll x = Crowds.hub(others + 1, 3L);
            for (int t = 1; t <= 2; t++) {
                int before = x.letters(0);
                int sent = x.turn(0);
                due.is("TURN " + t + " of " + others + " others", sent, t == 1 ? 1 : 1 + Math.min(3, others - 1));
                due.is("letters", x.letters(0) - before, sent);
            }
        }
        Roll x = Crowds.joined(2);
        x.fall(0);
        x.leave(1);
        due.is("FALLEN", x.turn(0), DOWN);
        due.is("AWAY", x.turn(1), DOWN);
        due.is("turn(2)", x.turn(2), MISSING);
        due.is("turn(64)", x.turn(64), BEYOND);
        due.is("turn(-1)", x.turn(-1), BEYOND);
    }

    private static void fall() {
        due.sentence("Promise 6", "m, UP, is FALLEN; it keeps its TERM, SEED and TURNS alone (its ROLL has none but itself:"
                + " ALIVE, TOLD 0, with the TURN, NONE; no ROUND; it waits for none): its TERM.");
        Roll x = Crowds.star(3);
        x.fall(0);
        x.rise(0);
        x.deliver(x.join(1, 0));
        x.deliver(x.join(2, 0));
        Crowds.turns(x, 0, 2);
        due.is("fall(0)", x.fall(0), 2);
        int[] want = {FALLEN, 2, 2, 1, 1, 0, 0, 0, NONE, NONE, 0, 0};
        for (int what = 0; what < want.length; what++) {
            due.is("state(0, " + what + ")", x.state(0, what), want[what]);
        }
        due.news(x, 0, 0, 1, 2, 0, 2, NONE);
        due.is("news(0, 1, 0)", x.news(0, 1, 0), MISSING);
        due.is("round(0, 0)", x.round(0, 0), BEYOND);
        due.is("fall(0), FALLEN", x.fall(0), DOWN);
        x.leave(1);
        due.is("fall(1), AWAY", x.fall(1), DOWN);
        due.is("fall(9)", x.fall(9), MISSING);
        due.is("fall(64)", x.fall(64), BEYOND);
    }

    /** The seed goes on where it stood before the fall, as the next round shows. */
    private static void fallKeepsSeed() {
        due.sentence("Promise 6", "it keeps its TERM, SEED and TURNS alone");
        Roll x = Crowds.hub(6, 21L);
        Draws draws = new Draws(21L);
        x.turn(0);
        draws.round(Crowds.range(1, 5));
        x.fall(0);
        x.rise(0);
        for (int m = 1; m <= 5; m++) {
            x.deliver(x.join(m, 0));
        }
        due.is("a TURN has nothing to BID for", x.turn(0), 1);
        due.is("TURNS", x.state(0, 2), 2);
        due.round(x, 0, draws.round(Crowds.range(1, 5)));
    }

    private static void rise() {
        due.sentence("Promise 7", "m, FALLEN or AWAY, is UP; its TERM is one more, and it says ALIVE of itself (a ROLL that"
                + " it had when it went AWAY it has still): its TERM.");
        Roll x = Crowds.star(4);
        Crowds.turns(x, 0, 1);
        x.fall(0);
        due.is("rise(0), FALLEN", x.rise(0), 2);
        due.is("UP", x.state(0, 0), 0);
        due.is("TERM", x.state(0, 1), 2);
        due.news(x, 0, 0, 1, 2, 0, 1, NONE);
        due.is("its ROLL has itself alone", x.state(0, 3), 1);
        x = Crowds.star(4);
        Crowds.turns(x, 0, 3);
        int doubted = x.state(0, 5);
        x.leave(0);
        due.is("rise(0), AWAY", x.rise(0), 2);
        due.is("UP", x.state(0, 0), 0);
        due.news(x, 0, 0, 1, 2, 0, 3, NONE);
        due.is("its ROLL has all still", x.state(0, 3), 4);
        due.is("and the doubts", x.state(0, 5), doubted);
        due.is("TURNS", x.state(0, 2), 3);
        x.fall(0);
        due.is("rise(0) again", x.rise(0), 3);
    }

    private static void riseKeepsSeed() {
        due.sentence("Promise 7", "m, FALLEN or AWAY, is UP");
        Roll x = Crowds.hub(6, 8L);
        Draws draws = new Draws(8L);
        x.leave(0);
        draws.three(Crowds.range(1, 5));
        x.rise(0);
        x.turn(0);
        due.round(x, 0, draws.round(Crowds.range(1, 5)));
    }

    private static void riseOfOneThatIsUp() {
        due.sentence("Promise 7", "NO: it is UP.");
        Roll x = Crowds.strangers(1);
        due.is("rise(0)", x.rise(0), NO);
        due.is("TERM", x.state(0, 1), 1);
        x.fall(0);
        x.rise(0);
        due.is("rise(0)", x.rise(0), NO);
        due.is("TERM", x.state(0, 1), 2);
        due.is("rise(1)", x.rise(1), MISSING);
        due.is("rise(64)", x.rise(64), BEYOND);
    }

    private static void deliver() {
        due.sentence("Promise 8", "A LETTER that is UNDER WAY is delivered: how many letters were sent by that; NONE: it was"
                + " LOST.");
        Roll x = Crowds.strangers(3);
        due.is("deliver(0)", x.deliver(0), BEYOND);
        x.join(1, 0);
        x.join(1, 0);
        due.is("a JOIN", x.deliver(0), 1);
        due.is("deliver(0) again", x.deliver(0), MISSING);
        due.is("a FULL", x.deliver(2), 0);
        x.fall(0);
        due.is("one that is LOST", x.deliver(1), NONE);
        due.is("deliver(1) again", x.deliver(1), MISSING);
        due.is("deliver(3)", x.deliver(3), BEYOND);
        due.is("deliver(-1)", x.deliver(-1), BEYOND);
        due.is("acts: the lost one was done", x.status(0), 9);
    }

    private static void lose() {
        due.sentence("Promise 9", "A LETTER that is UNDER WAY is LOST: how many still are UNDER WAY.");
        Roll x = Crowds.strangers(2);
        due.is("lose(0)", x.lose(0), BEYOND);
        for (int i = 0; i < 4; i++) {
            x.join(0, 1);
        }
        due.is("lose(1)", x.lose(1), 3);
        due.is("letter(1, 5)", x.letter(1, 5), 2);
        due.is("lose(1) again", x.lose(1), MISSING);
        due.is("twice(1)", x.twice(1), MISSING);
        due.is("deliver(1)", x.deliver(1), MISSING);
        due.is("deliver(0)", x.deliver(0), 1);
        due.is("lose(0), delivered", x.lose(0), MISSING);
        due.is("lose(3)", x.lose(3), 2);
        due.is("lose(2)", x.lose(2), 1);
        due.is("lose(4), the last", x.lose(4), 0);
        due.is("lose(5)", x.lose(5), BEYOND);
        due.is("lose(-1)", x.lose(-1), BEYOND);
        due.is("nothing was taken of them", x.trace(0), 1);
    }

    private static void twice() {
        due.sentence("Promise 10", "A LETTER that is UNDER WAY is sent once more, with the same NEWS (none is TOLD more): the"
                + " other one's number.");
        Roll x = Crowds.joined(3);
        int join = x.join(2, 1);
        int told = x.news(2, 2, 2);
        x.fall(2);
        x.rise(2);
        int copy = x.twice(join);
        due.is("twice", copy, join + 1);
        due.letter(x, copy, JOIN, 2, 1, NONE, 3, 0, join);
        due.letter(x, join, JOIN, 2, 1, NONE, 3, 0, NONE);
        for (int i = 0; i < 3; i++) {
            for (int what = 0; what <= 3; what++) {
                due.is("carries(copy, " + i + ", " + what + ")", x.carries(copy, i, what), x.carries(join, i, what));
            }
        }
        due.is("its own news is not TOLD by it", x.news(2, 2, 2), 0);
        due.holds("it was by the first one", told > 0);
        due.is("deliver(join)", x.deliver(join), 1);
        due.is("the copy is UNDER WAY still", x.letter(copy, 5), 0);
        due.is("twice(join), delivered", x.twice(join), MISSING);
        due.is("a copy's copy", x.twice(copy), join + 3);
        due.is("is one of the copy", x.letter(join + 3, 6), copy);
        due.is("deliver(copy)", x.deliver(copy), 1);
        due.is("twice(99)", x.twice(99), BEYOND);
        due.is("twice(-1)", x.twice(-1), BEYOND);
    }

    private static void twiceOfBareAndLarge() {
        due.sentence("Promise 10", "with the same NEWS");
        Roll x = Crowds.strangers(2);
        for (int i = 0; i < 9; i++) {
            x.join(0, 1);
        }
        due.pieces(x, x.twice(8), List.of());
        x = Crowds.hub(64, 1L);
        due.pieces(x, x.twice(125), Crowds.range(0, 63));
        x = Crowds.joined(3);
        Crowds.turns(x, 0, 2);
        int bid = x.letters(0) - 2;
        int copy = x.twice(bid);
        due.letter(x, copy, 2, 0, x.letter(bid, 2), x.letter(bid, 3));
    }

    private static void cut() {
        due.sentence("Promise 11", "The link of a and b is cut: 1; 0: it was.");
        Roll x = Crowds.joined(3);
        due.is("cut(0, 1)", x.cut(0, 1), 1);
        due.is("cut(0, 1) again", x.cut(0, 1), 0);
        int join = x.join(0, 1);
        due.is("a letter on it", x.deliver(join), NONE);
        due.is("a letter on another", x.deliver(x.join(0, 2)), 1);
        due.is("both are acts that were done", x.status(0), 3 + 3 * 2 + 2 + 2 + 2);
    }

    private static void cutOneself() {
        due.sentence("Promise 11", "NO: they are one.");
        Roll x = Crowds.strangers(1);
        due.is("cut(0, 0)", x.cut(0, 0), NO);
        due.is("cut(63, 63)", x.cut(63, 63), NO);
        due.is("cut(64, 64)", x.cut(64, 64), BEYOND);
    }

    private static void cutLinkByLink() {
        due.sentence("Promise 11", "(Members need not be made; link by link, both ways.)");
        Roll x = new Roll();
        for (int b = 1; b < 64; b++) {
            due.is("cut(0, " + b + ")", x.cut(0, b), 1);
        }
        for (int a = 1; a < 64; a++) {
            due.is("cut(" + a + ", 0)", x.cut(a, 0), 0);
        }
        for (int a = 1; a < 62; a++) {
            due.is("cut(" + a + ", 62)", x.cut(a, 62), 1);
            due.is("cut(62, " + a + ")", x.cut(62, a), 0);
        }
        due.is("cut(62, 63)", x.cut(62, 63), 1);
        due.is("heal(30, 31)", x.heal(30, 31), 0);
        due.is("cut(31, 63)", x.cut(31, 63), 1);
        due.is("cut(63, 31)", x.cut(63, 31), 0);
        due.is("cut(-1, 0)", x.cut(-1, 0), BEYOND);
        due.is("cut(0, 64)", x.cut(0, 64), BEYOND);
    }

    private static void heal() {
        due.sentence("Promise 12", "The link of a and b is whole again: 1; 0: it was.");
        Roll x = Crowds.strangers(3);
        due.is("heal(0, 1)", x.heal(0, 1), 0);
        x.cut(0, 1);
        x.cut(0, 2);
        x.cut(0, 33);
        due.is("heal(1, 0)", x.heal(1, 0), 1);
        due.is("heal(0, 1) again", x.heal(0, 1), 0);
        due.is("a letter on it", x.deliver(x.join(0, 1)), 1);
        due.is("another link stays cut", x.deliver(x.join(0, 2)), NONE);
        due.is("heal(0, 33)", x.heal(0, 33), 1);
        due.is("heal(33, 1)", x.heal(33, 1), 0);
        x.cut(0, 1);
        int join = x.join(0, 1);
        x.heal(0, 1);
        due.is("a letter that was sent while it was cut", x.deliver(join), 1);
    }

    private static void healOneself() {
        due.sentence("Promise 12", "NO: they are one.");
        Roll x = new Roll();
        due.is("heal(0, 0)", x.heal(0, 0), NO);
        due.is("heal(63, 63)", x.heal(63, 63), NO);
        due.is("heal(-1, -1)", x.heal(-1, -1), BEYOND);
        due.is("heal(64, 0)", x.heal(64, 0), BEYOND);
        due.is("heal(0, 64)", x.heal(0, 64), BEYOND);
    }

    public static void main(String[] args) {
        newObject();
        twoObjects();
        member();
        memberWasMade();
        join();
        joinOneself();
        leave();
        leaveTellsTheWaitedFor();
        leaveEndsWaiting();
        turn();
        fall();
        fallKeepsSeed();
        rise();
        riseKeepsSeed();
        riseOfOneThatIsUp();
        deliver();
        lose();
        twice();
        twiceOfBareAndLarge();
        cut();
        cutOneself();
        cutLinkByLink();
        heal();
        healOneself();
        due.finish();
    }
}
