/** Promises 24 to 26: agree, apart, count. */
public final class CrowdTest {
    private static final Due due = new Due();
    private static final int NONE = CrowdRoll.NONE;
    private static final int NO = CrowdRoll.NO;
    private static final int BEYOND = CrowdRoll.BEYOND;

    private static void apart(Roll x, int a, int b, int of) {
        due.is("apart(0)", x.apart(0), a);
        due.is("apart(1)", x.apart(1), b);
        due.is("apart(2)", x.apart(2), of);
        due.is("agree()", x.agree(), a == NONE ? 1 : 0);
    }

    private static void agree() {
        due.sentence("Promise 24", "1 if all members that are UP have ROLLS with the same news (KIND and TERM, of all members),"
                + " else 0.");
        due.is("of none", new Roll().agree(), 1);
        due.is("of one", Crowds.strangers(1).agree(), 1);
        due.is("of two strangers", Crowds.strangers(2).agree(), 0);
        Roll x = Crowds.joined(2);
        due.is("of two that met", x.agree(), 1);
        x.turn(0);
        x.turn(1);
        x.join(1, 0);
        due.holds("TOLD is not the same", x.news(0, 0, 2) != x.news(1, 0, 2));
        due.is("TOLD, TURN and letter do not matter", x.agree(), 1);
        x.member(63, 1L);
        due.is("one that knows nobody", x.agree(), 0);
        x.fall(63);
        due.is("one that is FALLEN does not matter", x.agree(), 1);
        x.rise(63);
        x.leave(63);
        due.is("nor one that is AWAY", x.agree(), 1);
        x.fall(0);
        due.is("of one that is UP", x.agree(), 1);
        x.fall(1);
        due.is("of none that is UP", x.agree(), 1);
    }

    private static void agreeByKind() {
        due.sentence("Promise 24", "(KIND and TERM, of all members)");
        Roll x = Crowds.joined(2);
        Crowds.turns(x, 0, 3);
        due.is("the same TERM", x.news(0, 1, 1), x.news(1, 1, 1));
        due.is("another KIND", x.agree(), 0);
        x = Crowds.joined(2);
        x.leave(1);
        x.rise(1);
        due.is("the same KIND", x.news(0, 1, 0), x.news(1, 1, 0));
        due.is("another TERM", x.agree(), 0);
        x = Crowds.joined(2);
        x.member(63, 1L);
        x.deliver(x.join(63, 0));
        x.fall(63);
        due.is("news of one that is not UP", x.agree(), 0);
        Crowds.meet(x, 1, 0);
        due.is("that both have", x.agree(), 1);
    }

    /** One that has forgotten somebody is as one that never knew it. */
    private static void agreeAfterFall() {
        due.sentence("Promise 24", "ROLLS with the same news");
        Roll x = Crowds.joined(3);
        x.fall(1);
        x.fall(2);
        x.fall(0);
        x.rise(0);
        x.member(3, 1L);
        Crowds.meet(x, 3, 0);
        due.is("0 has news of itself and 3", x.state(0, 3), 2);
        apart(x, NONE, NONE, NONE);
    }

    private static void firstApart() {
        due.sentence("Promise 25", "The first two members a < b (the least a, then the least b) that are UP and differ in news of"
                + " some x, the least: a (what = 0), b (1), x (2); NONE if there are none.");
        apart(new Roll(), NONE, NONE, NONE);
        apart(Crowds.strangers(1), NONE, NONE, NONE);
        apart(Crowds.strangers(3), 0, 1, 0);
        Roll x = Crowds.joined(4);
        due.part("0 and 1: 1 has no news of 2 and 3");
        apart(x, 0, 1, 2);
        Crowds.meet(x, 1, 0);
        due.part("0 and 2: 2 has no news of 3");
        apart(x, 0, 2, 3);
        x.fall(2);
        due.part("2 is FALLEN, 0, 1 and 3 agree");
        apart(x, NONE, NONE, NONE);
        x.rise(2);
        due.part("2 knows itself alone");
        apart(x, 0, 2, 0);
        x.fall(0);
        due.part("0 is FALLEN");
        apart(x, 1, 2, 0);
        x.leave(1);
        due.part("1 is AWAY");
        apart(x, 2, 3, 0);
        due.is("NONE is no refusal", x.again(), CrowdRoll.NOTHING);
    }

    private static void apartAtTheEnds() {
        due.sentence("Promise 25", "the least: a (what = 0), b (1), x (2)");
        Roll x = new Roll();
        x.member(62, 1L);
        x.member(63, 1L);
        apart(x, 62, 63, 62);
        Crowds.meet(x, 62, 63);
        apart(x, NONE, NONE, NONE);
        x.leave(63);
        x.rise(63);
        due.part("of the same KIND, another TERM");
        apart(x, 62, 63, 63);
    }

    private static void apartOfNothing() {
        due.sentence("Promise 25", "NO: another what.");
        Roll x = Crowds.strangers(2);
        for (int what : new int[] {-1, 3, 4, Integer.MIN_VALUE, Integer.MAX_VALUE}) {
            due.is("apart(" + what + ")", x.apart(what), NO);
            due.is("apart(" + what + ") of none", new Roll().apart(what), NO);
        }
    }

    private static void count() {
        due.sentence("Promise 26", "How many members that are UP have on their ROLLS news of x of a KIND (0: none), but x"
                + " itself.");
        Roll x = Crowds.joined(4);
        due.is("ALIVE of 3", x.count(3, 1), 1);
        due.is("none of 3", x.count(3, 0), 2);
        due.is("ALIVE of 0, but itself", x.count(0, 1), 3);
        due.is("none of 0", x.count(0, 0), 0);
        due.is("none of 63, which was not made", x.count(63, 0), 4);
        x.fall(1);
        due.is("ALIVE of 0, but one that is FALLEN", x.count(0, 1), 2);
        due.is("none of 0, but one that is FALLEN", x.count(0, 0), 0);
        x.leave(3);
        due.is("ALIVE of 0, but one that is AWAY", x.count(0, 1), 1);
        Crowds.deliverAll(x);
        due.is("LEFT of 3, but itself", x.count(3, 4), 2);
        due.is("GONE of 3", x.count(3, 3), 0);
        due.is("DOUBTED of 3", x.count(3, 2), 0);
        due.is("ALIVE of 3", x.count(3, 1), 0);
        x = Crowds.joined(2);
        Crowds.turns(x, 0, 3);
        due.is("DOUBTED of 1", x.count(1, 2), 1);
        Crowds.turns(x, 0, 5);
        due.is("GONE of 1", x.count(1, 3), 1);
        due.is("of none", new Roll().count(0, 0), 0);
    }

    private static void countBeyond() {
        due.sentence("Promise 26", "BEYOND: x is not 0 .. 63; NO: KIND is not 0 .. 4.");
        Roll x = Crowds.strangers(1);
        for (int m : Crowds.OUTSIDE) {
            due.is("count(" + m + ", 0)", x.count(m, 0), BEYOND);
            due.is("before NO, count(" + m + ", 5)", x.count(m, 5), BEYOND);
        }
        for (int kind : new int[] {-1, 5, 6, Integer.MIN_VALUE, Integer.MAX_VALUE}) {
            due.is("count(0, " + kind + ")", x.count(0, kind), NO);
        }
        due.is("count(63, 4)", x.count(63, 4), 0);
    }

    public static void main(String[] args) {
        agree();
        agreeByKind();
        agreeAfterFall();
        firstApart();
        apartAtTheEnds();
        apartOfNothing();
        count();
        countBeyond();
        due.finish();
    }
}
