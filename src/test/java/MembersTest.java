/** Promises 17 to 23: members, their rolls and rounds, and the table. */
public final class MembersTest {
    private static final Due due = new Due();
    private static final int MISSING = CrowdRoll.MISSING;
    private static final int BEYOND = CrowdRoll.BEYOND;
    private static final int NO = CrowdRoll.NO;
    private static final int NONE = CrowdRoll.NONE;

    /** Member 0 has doubted 1 to 3 of them, made some of them gone, and heard that 5 left. */
    private static CrowdRoll troubled() {
        CrowdRoll x = Crowds.joined(6);
        x.leave(5);
        for (int l = x.letters(0) - 3; l < x.letters(0); l++) {
            if (x.letter(l, 2) == 0) {
                x.deliver(l);
            }
        }
        for (int i = 0; i < 9; i++) {
            x.turn(0);
        }
        return x;
    }

    private static void state() {
        due.part("promise 17");
        CrowdRoll x = troubled();
        due.is("standing", x.state(0, 0), 0);
        due.is("away", x.state(5, 0), 2);
        due.is("term", x.state(0, 1), 1);
        due.is("turns", x.state(0, 2), 9);
        int[] kinds = new int[5];
        for (int m = 0; m < 64; m++) {
            int kind = x.news(0, m, 0);
            kinds[kind == MISSING ? 0 : kind]++;
        }
        due.is("news", x.state(0, 3), 6);
        due.is("alive", x.state(0, 4), kinds[1]);
        due.is("doubted", x.state(0, 5), kinds[2]);
        due.is("gone", x.state(0, 6), kinds[3]);
        due.is("left", x.state(0, 7), kinds[4]);
        due.holds("some are doubted", kinds[2] > 0);
        due.holds("some are gone", kinds[3] > 0);
        due.is("state(0, 12)", x.state(0, 12), NO);
        due.is("state(0, -1)", x.state(0, -1), NO);
        due.is("state(6, 12): missing before not as told", x.state(6, 12), MISSING);
        due.is("state(64, 0)", x.state(64, 0), BEYOND);
        due.is("state(-1, 0)", x.state(-1, 0), BEYOND);
    }

    private static void news() {
        due.part("promise 18");
        CrowdRoll x = Crowds.joined(3);
        x.turn(2);
        due.is("kind", x.news(2, 0, 0), 1);
        due.is("term", x.news(2, 0, 1), 1);
        due.is("told", x.news(2, 0, 2), 1);
        due.is("turn", x.news(2, 0, 3), 0);
        due.is("letter", x.news(2, 0, 4), 3);
        x.deliver(x.join(2, 1));
        x.turn(1);
        x.deliver(x.join(2, 1));
        due.is("the turn at which it came first", x.news(1, 2, 3), 0);
        due.is("news(2, 0, 5)", x.news(2, 0, 5), NO);
        due.is("news(2, 0, -1)", x.news(2, 0, -1), NO);
        due.is("news(2, 7, 5): no news before not as told", x.news(2, 7, 5), MISSING);
        due.is("news(7, 2, 0)", x.news(7, 2, 0), MISSING);
        due.is("news(7, 64, 0): beyond before missing", x.news(7, 64, 0), BEYOND);
        due.is("news(2, -1, 0)", x.news(2, -1, 0), BEYOND);
        due.is("news(-1, 2, 0)", x.news(-1, 2, 0), BEYOND);
    }

    private static void as() {
        due.part("promise 19");
        CrowdRoll x = Crowds.strangers(2);
        x.fall(0);
        x.rise(0);
        x.leave(0);
        for (int kind = 1; kind <= 4; kind++) {
            due.is("left as " + kind, x.as(0, 0, kind), 2);
        }
        due.is("alive as alive", x.as(1, 1, 1), 1);
        for (int kind = 2; kind <= 4; kind++) {
            due.is("alive as " + kind, x.as(1, 1, kind), CrowdRoll.KIND);
        }
        x.rise(0);
        x.deliver(x.join(0, 1));
        for (int i = 0; i < 3; i++) {
            x.turn(1);
        }
        due.is("doubted as alive", x.as(1, 0, 1), 3);
        due.is("doubted as doubted", x.as(1, 0, 2), 3);
        due.is("doubted as gone", x.as(1, 0, 3), CrowdRoll.KIND);
        due.is("as(1, 1, 0)", x.as(1, 1, 0), NO);
        due.is("as(1, 1, 5)", x.as(1, 1, 5), NO);
        due.is("as(1, 9, 5): no news before not as told", x.as(1, 9, 5), MISSING);
        due.is("as(9, 1, 1)", x.as(9, 1, 1), MISSING);
        due.is("as(1, 64, 1)", x.as(1, 64, 1), BEYOND);
        due.is("as(-1, 1, 1)", x.as(-1, 1, 1), BEYOND);
    }

    private static void round() {
        due.part("promise 20");
        CrowdRoll x = Crowds.joined(4);
        due.is("no round yet", x.round(0, 0), BEYOND);
        x.turn(0);
        boolean[] seen = new boolean[64];
        for (int i = 0; i < 3; i++) {
            seen[x.round(0, i)] = true;
        }
        due.holds("all others are on it", seen[1] && seen[2] && seen[3]);
        due.is("round(0, 3)", x.round(0, 3), BEYOND);
        due.is("round(0, -1)", x.round(0, -1), BEYOND);
        due.is("round(4, 0)", x.round(4, 0), MISSING);
        due.is("round(64, 0)", x.round(64, 0), BEYOND);
        due.is("round(-1, 0)", x.round(-1, 0), BEYOND);
    }

    private static void next() {
        due.part("promise 21");
        CrowdRoll x = Crowds.joined(5);
        for (int i = 0; i < 12; i++) {
            int m = i % 5;
            int rounds = x.trace(11);
            int next = x.next(m);
            due.is("nothing changes", x.next(m), next);
            due.is("no round is made by it", x.trace(11), rounds);
            int before = x.letters(0);
            x.turn(m);
            due.is("whom " + m + " asks", x.state(m, 8), next);
            while (before < x.letters(0)) {
                x.deliver(before);
                before++;
            }
        }
        due.is("replay() after next()", x.replay(), 1);
        due.is("nobody", Crowds.strangers(1).next(0), NONE);
        due.is("next(5)", x.next(5), MISSING);
        due.is("next(64)", x.next(64), BEYOND);
        due.is("next(-1)", x.next(-1), BEYOND);
        x.fall(0);
        due.is("next(0), fallen", x.next(0), CrowdRoll.DOWN);
        x.leave(1);
        due.is("next(1), away", x.next(1), CrowdRoll.DOWN);
    }

    /** One of the round that is gone or left by now is passed over. */
    private static void nextPassesOver() {
        due.part("promise 21, passing over");
        CrowdRoll x = Crowds.joined(4);
        x.turn(0);
        int second = x.round(0, 1);
        int third = x.round(0, 2);
        due.is("next(0)", x.next(0), second);
        x.leave(second);
        for (int l = 0; l < x.letters(0); l++) {
            if (x.letter(l, 0) == 6 && x.letter(l, 1) == second) {
                due.is("farewell", x.letter(l, 2) == 0 ? x.deliver(l) : 0, 0);
            }
        }
        due.is("0 heard it", x.news(0, second, 0), 4);
        due.is("next(0)", x.next(0), third);
        x.turn(0);
        due.is("asked", x.state(0, 8), third);
        due.is("place", x.state(0, 11), 3);
        x.turn(0);
        due.is("a new round without it", x.state(0, 10), 2);
        due.is("its place", x.state(0, 11), 1);
    }

    private static void copyAndTable() {
        due.part("promises 22 and 23");
        CrowdRoll x = Crowds.joined(6);
        due.is("nothing of no round", x.copy(0, 0, 0, 16), 0);
        due.is("one of no round", x.copy(0, 0, 1, 0), CrowdRoll.COPY);
        x.turn(0);
        due.is("copy(0, 1, 3, 13)", x.copy(0, 1, 3, 13), 3);
        for (int i = 0; i < 3; i++) {
            due.is("table(" + (13 + i) + ")", x.table(13 + i), x.round(0, 1 + i));
        }
        due.is("table(12)", x.table(12), NONE);
        due.is("copy(0, 5, 0, 0)", x.copy(0, 5, 0, 0), 0);
        due.is("copy(0, 6, 0, 0)", x.copy(0, 6, 0, 0), CrowdRoll.COPY);
        due.is("copy(0, 0, 6, 0)", x.copy(0, 0, 6, 0), CrowdRoll.COPY);
        due.is("copy(0, 0, 3, 14)", x.copy(0, 0, 3, 14), CrowdRoll.COPY);
        due.is("copy(0, -1, 1, 0)", x.copy(0, -1, 1, 0), CrowdRoll.COPY);
        due.is("copy(0, 0, 1, -1)", x.copy(0, 0, 1, -1), CrowdRoll.COPY);
        int max = Integer.MAX_VALUE;
        due.is("copy(0, max, max, 0)", x.copy(0, max, max, 0), CrowdRoll.COPY);
        due.is("copy(0, 1, max, 0)", x.copy(0, 1, max, 0), CrowdRoll.COPY);
        due.is("copy(0, max, 1, 0)", x.copy(0, max, 1, 0), CrowdRoll.COPY);
        due.is("copy(0, 0, 1, max)", x.copy(0, 0, 1, max), CrowdRoll.COPY);
        due.is("copy(0, min, 1, min)", x.copy(0, Integer.MIN_VALUE, 1, Integer.MIN_VALUE), CrowdRoll.COPY);
        due.is("copy(0, -1, -1, -1): below before copy", x.copy(0, -1, -1, -1), CrowdRoll.BELOW);
        due.is("copy(6, 0, -1, 0): missing before below", x.copy(6, 0, -1, 0), MISSING);
        due.is("copy(64, 0, -1, 0)", x.copy(64, 0, -1, 0), BEYOND);
        due.is("a refused copy changes nothing", x.table(0), NONE);
        due.is("table(16)", x.table(16), BEYOND);
        due.is("table(-1)", x.table(-1), BEYOND);
    }

    public static void main(String[] args) {
        state();
        news();
        as();
        round();
        next();
        nextPassesOver();
        copyAndTable();
        due.finish();
    }
}
