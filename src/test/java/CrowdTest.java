/** Promises 24 to 26: agree, apart, count. */
public final class CrowdTest {
    private static final Due due = new Due();
    private static final int NONE = CrowdRoll.NONE;

    private static void apartIs(CrowdRoll x, int a, int b, int of) {
        due.is("apart(0)", x.apart(0), a);
        due.is("apart(1)", x.apart(1), b);
        due.is("apart(2)", x.apart(2), of);
        due.is("agree()", x.agree(), a == NONE ? 1 : 0);
    }

    private static void agreeAndApart() {
        due.part("promises 24 and 25");
        apartIs(new CrowdRoll(), NONE, NONE, NONE);
        apartIs(Crowds.strangers(1), NONE, NONE, NONE);
        apartIs(Crowds.strangers(3), 0, 1, 0);
        CrowdRoll x = Crowds.joined(4);
        apartIs(x, 0, 1, 2);
        x.deliver(x.join(1, 0));
        x.deliver(x.letters(0) - 1);
        apartIs(x, 0, 2, 3);
        x.fall(2);
        apartIs(x, NONE, NONE, NONE);
        x.rise(2);
        apartIs(x, 0, 2, 0);
        x.fall(0);
        apartIs(x, 1, 2, 0);
        x.fall(2);
        apartIs(x, NONE, NONE, NONE);
        due.is("apart(3)", x.apart(3), CrowdRoll.NO);
        due.is("apart(-1)", x.apart(-1), CrowdRoll.NO);
    }

    /** The same kind with another term is other news. */
    private static void apartByTerm() {
        due.part("promises 24 and 25, terms");
        CrowdRoll x = Crowds.joined(2);
        apartIs(x, NONE, NONE, NONE);
        x.leave(1);
        x.rise(1);
        due.is("kinds are the same", x.news(1, 1, 0), x.news(0, 1, 0));
        apartIs(x, 0, 1, 1);
    }

    private static void count() {
        due.part("promise 26");
        CrowdRoll x = Crowds.joined(4);
        due.is("alive of 3", x.count(3, 1), 1);
        due.is("none of 3", x.count(3, 0), 2);
        due.is("alive of 0, but itself", x.count(0, 1), 3);
        due.is("none of 40", x.count(40, 0), 4);
        x.fall(1);
        due.is("only those that are up", x.count(0, 1), 2);
        x.leave(3);
        Crowds.deliverAll(x);
        due.is("left of 3", x.count(3, 4), 2);
        due.is("gone of 3", x.count(3, 3), 0);
        due.is("doubted of 3", x.count(3, 2), 0);
        due.is("count(64, 9): beyond before not as told", x.count(64, 9), CrowdRoll.BEYOND);
        due.is("count(-1, 0)", x.count(-1, 0), CrowdRoll.BEYOND);
        due.is("count(0, 5)", x.count(0, 5), CrowdRoll.NO);
        due.is("count(0, -1)", x.count(0, -1), CrowdRoll.NO);
    }

    public static void main(String[] args) {
        agreeAndApart();
        apartByTerm();
        count();
        due.finish();
    }
}
