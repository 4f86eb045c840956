/** Promises 27 to 30: the way by which news came, forged and checked. */
public final class WaysTest {
    private static final Due due = new Due();
    private static final int MISSING = CrowdRoll.MISSING;
    private static final int BEYOND = CrowdRoll.BEYOND;

    /** News of 3 goes to 2, 1, 0 by the letters 0, 2, 4, each answered by a whole roll. */
    private static CrowdRoll chain() {
        CrowdRoll x = Crowds.strangers(4);
        x.deliver(x.join(3, 2));
        x.deliver(x.join(2, 1));
        x.deliver(x.join(1, 0));
        return x;
    }

    private static void way() {
        due.part("promises 27 and 28");
        CrowdRoll x = chain();
        due.is("wayAt(0) before any way", x.wayAt(0), BEYOND);
        due.is("way(0, 3)", x.way(0, 3), 3);
        due.is("wayAt(0)", x.wayAt(0), 4);
        due.is("wayAt(1)", x.wayAt(1), 2);
        due.is("wayAt(2)", x.wayAt(2), 0);
        due.is("wayAt(3)", x.wayAt(3), BEYOND);
        due.is("wayAt(-1)", x.wayAt(-1), BEYOND);
        due.is("way(0, 9)", x.way(0, 9), MISSING);
        due.is("way(9, 0)", x.way(9, 0), MISSING);
        due.is("way(9, 64)", x.way(9, 64), BEYOND);
        due.is("way(-1, 0)", x.way(-1, 0), BEYOND);
        due.is("a refused way leaves the one before", x.wayAt(2), 0);
        due.is("way(0, 0): its own word", x.way(0, 0), 0);
        due.is("a way of none", x.wayAt(0), BEYOND);
    }

    /** A copy brings news by its own number, and keeps what the first one kept. */
    private static void wayOfCopy() {
        due.part("promise 27, a copy");
        CrowdRoll x = Crowds.strangers(3);
        x.deliver(x.join(2, 1));
        int join = x.join(1, 0);
        x.deliver(x.twice(join));
        due.is("way(0, 2)", x.way(0, 2), 2);
        due.is("wayAt(0)", x.wayAt(0), join + 1);
        due.is("wayAt(1)", x.wayAt(1), 0);
        due.is("check", x.check(0, 2, 1, 1), 1);
        due.is("forge(0, join)", x.forge(0, join), 1);
        due.is("the first one is under way", x.check(0, 2, 1, 1), 0);
        x.lose(join);
        due.is("the first one is lost", x.check(0, 2, 1, 1), 0);
    }

    private static void forge() {
        due.part("promise 29");
        CrowdRoll x = chain();
        due.is("forge(0, 1) before any way", x.forge(0, 1), BEYOND);
        x.way(0, 3);
        due.is("forge(3, 1)", x.forge(3, 1), BEYOND);
        due.is("forge(-1, 1)", x.forge(-1, 1), BEYOND);
        int[] any = {Integer.MIN_VALUE, -9, -1, 0, 5, 6, Integer.MAX_VALUE};
        for (int l : any) {
            due.is("forge(1, " + l + ")", x.forge(1, l), 1);
            due.is("wayAt(1)", x.wayAt(1), l);
            due.is("check", x.check(0, 3, 1, 1), 0);
        }
        x.again();
        x.forge(1, CrowdRoll.NO);
        due.is("wayAt(1)", x.wayAt(1), CrowdRoll.NO);
        due.is("what is read there is no refusal", x.again(), CrowdRoll.NOTHING);
        x.forge(1, 2);
        due.is("check of the way as it was", x.check(0, 3, 1, 1), 1);
        x.way(0, 3);
        x.forge(0, 0);
        x.way(0, 3);
        due.is("told anew", x.wayAt(0), 4);
    }

    private static void check() {
        due.part("promise 30");
        CrowdRoll x = chain();
        x.way(0, 3);
        due.is("as told", x.check(0, 3, 1, 1), 1);
        due.is("another receiver", x.check(1, 3, 1, 1), 0);
        due.is("another one", x.check(0, 2, 1, 1), 0);
        due.is("one of whom no letter tells", x.check(0, 60, 1, 1), 0);
        due.is("another kind", x.check(0, 3, 2, 1), 0);
        due.is("another term", x.check(0, 3, 1, 2), 0);
        due.is("no kind", x.check(0, 3, 0, 0), 0);
        due.is("check(64, 0, 1, 1)", x.check(64, 0, 1, 1), BEYOND);
        due.is("check(9, -1, 1, 1): beyond before missing", x.check(9, -1, 1, 1), BEYOND);
        due.is("check(9, 0, 1, 1)", x.check(9, 0, 1, 1), MISSING);
        x.way(1, 3);
        due.is("a shorter way for a shorter journey", x.check(1, 3, 1, 1), 1);
        due.is("but for no other member", x.check(0, 3, 1, 1), 0);
        x.way(0, 2);
        due.is("way of 2", x.check(0, 2, 1, 1), 1);
        x.fall(0);
        due.is("the books stay when the roll is forgotten", x.check(0, 2, 1, 1), 1);
    }

    /** Each letter of a way keeps the next one, and the last one NONE. */
    private static void checkKept() {
        due.part("promise 30, kept letters");
        CrowdRoll x = Crowds.strangers(3);
        int first = x.join(2, 1);
        int copy = x.twice(first);
        x.deliver(first);
        x.deliver(copy);
        int join = x.join(1, 0);
        x.deliver(join);
        x.way(0, 2);
        due.is("as told", x.check(0, 2, 1, 1), 1);
        x.forge(1, copy);
        due.is("a copy that was delivered, but is not what is kept", x.check(0, 2, 1, 1), 0);
        due.is("a way of one", x.way(1, 2), 1);
        x.forge(0, copy);
        due.is("the copy stands for itself", x.check(1, 2, 1, 1), 1);
        x.forge(0, join);
        due.is("a last one that keeps another", x.check(0, 2, 1, 1), 0);
    }

    private static void checkOwnWord() {
        due.part("promise 30, a way of none");
        CrowdRoll x = chain();
        due.is("own word, before any way", x.check(0, 0, 1, 1), 1);
        due.is("came by a letter", x.check(0, 1, 1, 1), 0);
        due.is("no news", x.check(0, 60, 0, 0), 0);
        due.is("another kind", x.check(0, 0, 4, 1), 0);
        due.is("another term", x.check(0, 0, 1, 2), 0);
        for (int i = 0; i < 3; i++) {
            x.turn(2);
        }
        due.is("2 doubts 3", x.news(2, 3, 0), 2);
        due.is("a doubt is one's own word", x.way(2, 3), 0);
        due.is("its check", x.check(2, 3, 2, 1), 1);
        due.is("the news before it", x.check(2, 3, 1, 1), 0);
    }

    public static void main(String[] args) {
        way();
        wayOfCopy();
        forge();
        check();
        checkKept();
        checkOwnWord();
        due.finish();
    }
}
