import java.util.List;

/** Promises 17 to 23: members, their rolls and rounds, and the table. */
public final class MembersTest {
    private static final Due due = new Due();
    private static final int MISSING = CrowdRoll.MISSING;
    private static final int BEYOND = CrowdRoll.BEYOND;
    private static final int BELOW = CrowdRoll.BELOW;
    private static final int COPY = CrowdRoll.COPY;
    private static final int DOWN = CrowdRoll.DOWN;
    private static final int NO = CrowdRoll.NO;
    private static final int NONE = CrowdRoll.NONE;
    private static final int MIN = Integer.MIN_VALUE;
    private static final int MAX = Integer.MAX_VALUE;

    /** On the roll of 0: ALIVE 4, DOUBTED 3, GONE 2, LEFT 1, that is 2; it has taken 9 turns. */
    private static Roll troubled() {
        Roll x = Crowds.star(7);
        Crowds.leaveStar(x, 2);
        Crowds.turns(x, 0, 9);
        for (int m = 7; m <= 9; m++) {
            x.member(m, 1L);
            x.deliver(x.join(m, 0));
        }
        return x;
    }

    private static void state() {
        due.sentence("Promise 17", "Of m: 0 UP, 1 FALLEN, 2 AWAY (what = 0), its TERM (1), TURNS (2), of how many its ROLL has"
                + " news (3), of how many ALIVE (4), DOUBTED (5), GONE (6), LEFT (7); for whom it waits as asked (8), as BID"
                + " for (9), or NONE; how many its ROUND has (10), at which place it stands (11; both 0 without one).");
        Roll x = troubled();
        int[] want = {0, 1, 9, 10, 4, 3, 2, 1};
        for (int what = 0; what < want.length; what++) {
            due.is("state(0, " + what + ")", x.state(0, what), want[what]);
        }
        int asked = x.letter(x.letters(0) - 7, 2);
        due.is("asked", x.state(0, 8), asked);
        due.is("AWAY", x.state(2, 0), 2);
        x.fall(3);
        due.is("FALLEN", x.state(3, 0), 1);
        x.rise(3);
        due.is("TERM", x.state(3, 1), 2);
        x = Crowds.hub(4, 1L);
        int[] none = {NONE, NONE, 0, 0};
        for (int what = 8; what <= 11; what++) {
            due.is("without a ROUND, state(0, " + what + ")", x.state(0, what), none[what - 8]);
        }
        Crowds.turns(x, 0, 2);
        int[] some = {x.round(0, 1), x.round(0, 0), 3, 2};
        for (int what = 8; what <= 11; what++) {
            due.is("state(0, " + what + ")", x.state(0, what), some[what - 8]);
        }
        x.turn(0);
        due.is("at its end", x.state(0, 11), 3);
    }

    private static void stateBeyond() {
        due.sentence("Promise 17", "BEYOND, MISSING; NO: another what.");
        Roll x = Crowds.strangers(1);
        for (int m : Crowds.OUTSIDE) {
            due.is("state(" + m + ", 0)", x.state(m, 0), BEYOND);
            due.is("state(" + m + ", 12)", x.state(m, 12), BEYOND);
        }
        due.is("state(1, 0)", x.state(1, 0), MISSING);
        due.is("state(63, 12): before NO", x.state(63, 12), MISSING);
        for (int what : new int[] {-1, 12, 13, MIN, MAX}) {
            due.is("state(0, " + what + ")", x.state(0, what), NO);
        }
    }

    private static void news() {
        due.sentence("Promise 18", "Of x on m's ROLL: KIND (what = 0), TERM (1), how often TOLD (2), the TURN at which it came"
                + " (3), the letter that brought it, or NONE (4).");
        Roll x = Crowds.joined(3);
        due.news(x, 2, 0, 1, 1, 0, 0, 3);
        x.turn(2);
        due.news(x, 2, 0, 1, 1, 1, 0, 3);
        due.news(x, 2, 2, 1, 1, 2, 0, NONE);
        x.leave(1);
        x.rise(1);
        Crowds.turns(x, 2, 1);
        int join = x.join(1, 2);
        x.deliver(join);
        due.news(x, 2, 1, 1, 2, 0, 2, join);
    }

    private static void newsBeyond() {
        due.sentence("Promise 18", "BEYOND, MISSING (no member m, no news), NO.");
        Roll x = Crowds.strangers(3);
        for (int m : Crowds.OUTSIDE) {
            due.is("news(" + m + ", 0, 0)", x.news(m, 0, 0), BEYOND);
            due.is("news(0, " + m + ", 0)", x.news(0, m, 0), BEYOND);
            due.is("news(9, " + m + ", 9): before MISSING", x.news(9, m, 9), BEYOND);
        }
        due.is("no member 9", x.news(9, 0, 0), MISSING);
        due.is("no news of 1, which was made", x.news(0, 1, 0), MISSING);
        due.is("no news of 9, which was not", x.news(0, 9, 0), MISSING);
        due.is("no news: before NO", x.news(0, 1, 5), MISSING);
        for (int what : new int[] {-1, 5, 6, MIN, MAX}) {
            due.is("news(0, 0, " + what + ")", x.news(0, 0, what), NO);
        }
    }

    private static void as() {
        due.sentence("Promise 19", "The news of x on m's ROLL is taken for a KIND (1 .. 4; LEFT is GONE, too, that DOUBTED, that"
                + " ALIVE, not the other way): its TERM.");
        Roll x = troubled();
        boolean[] seen = new boolean[5];
        for (int m = 0; m <= 9; m++) {
            int kind = x.news(0, m, 0);
            seen[kind] = true;
            for (int as = 1; as <= 4; as++) {
                due.is("KIND " + kind + " as " + as, x.as(0, m, as), as <= kind ? 1 : CrowdRoll.KIND);
            }
        }
        due.holds("all KINDS were there", seen[1] && seen[2] && seen[3] && seen[4]);
        x.fall(5);
        x.rise(5);
        due.is("a TERM of 2", x.as(5, 5, 1), 2);
    }

    private static void asBeyond() {
        due.sentence("Promise 19", "BEYOND, MISSING; NO: no such KIND; KIND: it is none such.");
        Roll x = Crowds.strangers(2);
        for (int m : Crowds.OUTSIDE) {
            due.is("as(" + m + ", 0, 1)", x.as(m, 0, 1), BEYOND);
            due.is("as(0, " + m + ", 1)", x.as(0, m, 1), BEYOND);
            due.is("as(9, " + m + ", 9): before MISSING", x.as(9, m, 9), BEYOND);
        }
        due.is("as(9, 0, 1)", x.as(9, 0, 1), MISSING);
        due.is("as(0, 1, 1)", x.as(0, 1, 1), MISSING);
        due.is("as(0, 1, 5): before NO", x.as(0, 1, 5), MISSING);
        for (int kind : new int[] {0, -1, 5, MIN, MAX}) {
            due.is("as(0, 0, " + kind + ")", x.as(0, 0, kind), NO);
        }
        for (int kind = 2; kind <= 4; kind++) {
            due.is("as(0, 0, " + kind + ")", x.as(0, 0, kind), CrowdRoll.KIND);
        }
    }

    private static void round() {
        due.sentence("Promise 20", "The member at place i, from 0, of m's ROUND.");
        Roll x = Crowds.hub(6, 17L);
        x.turn(0);
        List<Integer> want = new Draws(17L).round(Crowds.range(1, 5));
        due.round(x, 0, want);
        x.turn(0);
        due.part("it does not move when it stands further");
        due.round(x, 0, want);
    }

    private static void roundBeyond() {
        due.sentence("Promise 20", "BEYOND: m, or no such place; MISSING.");
        Roll x = Crowds.hub(4, 1L);
        due.is("no ROUND yet", x.round(0, 0), BEYOND);
        x.turn(0);
        for (int i : new int[] {-1, 3, 63, 64, MIN, MAX}) {
            due.is("round(0, " + i + ")", x.round(0, i), BEYOND);
        }
        for (int m : Crowds.OUTSIDE) {
            due.is("round(" + m + ", 0)", x.round(m, 0), BEYOND);
        }
        due.is("round(4, 0)", x.round(4, 0), MISSING);
        x.fall(0);
        due.is("no ROUND any more", x.round(0, 0), BEYOND);
    }

    private static void next() {
        due.sentence("Promise 21", "Whom m would ask if it took its TURN's last step now, NONE if nobody; nothing changes.");
        Roll x = Crowds.hub(5, 4L);
        Draws draws = new Draws(4L);
        List<Integer> row = Crowds.range(1, 4);
        due.is("nobody, of one that knows none", x.next(1), NONE);
        due.is("NONE is no refusal", x.again(), CrowdRoll.NOTHING);
        due.is("without a ROUND", x.next(0), draws.copy().round(row).get(0));
        List<Integer> round = draws.round(row);
        for (int i = 0; i < 4; i++) {
            due.is("next(0)", x.next(0), round.get(i));
            due.is("next(0) again", x.next(0), round.get(i));
            due.is("no ROUND is made by it", x.trace(11), i == 0 ? 0 : 1);
            x.turn(0);
            due.is("asked", x.state(0, 8), round.get(i));
            if (i > 0) {
                draws.three(Crowds.without(row, round.get(i - 1)));
            }
        }
        due.is("at a ROUND's end", x.next(0), draws.copy().round(row).get(0));
        due.is("it stands where it stood", x.state(0, 11), 4);
        due.part("the TURN draws for its BIDS first");
        x.turn(0);
        draws.three(Crowds.without(row, round.get(3)));
        due.round(x, 0, draws.round(row));
        due.is("replay()", x.replay(), 1);
    }

    /** The last step alone: no doubt is looked at before it. */
    private static void nextIsTheLastStep() {
        due.sentence("Promise 21", "if it took its TURN's last step now");
        Roll x = Crowds.joined(2);
        Crowds.turns(x, 0, 7);
        due.is("1 is DOUBTED yet", x.next(0), 1);
        due.is("but GONE in the TURN", x.turn(0), 0);
        due.is("nobody", x.next(0), NONE);
        x = Crowds.star(4);
        x.turn(0);
        Crowds.leaveStar(x, x.round(0, 1));
        due.is("one that LEFT is passed over", x.next(0), x.round(0, 2));
        Crowds.leaveStar(x, x.round(0, 2));
        due.is("a new ROUND is tried", x.next(0), x.round(0, 0));
        Crowds.leaveStar(x, x.round(0, 0));
        due.is("nobody is left", x.next(0), NONE);
        due.is("the ROUND is as it was", x.state(0, 10), 3);
        due.is("and its place", x.state(0, 11), 1);
    }

    /** Turn by turn, while doubts grow old: the next one of the round as it stands, whatever the turn will do first. */
    private static void nextByTheRound() {
        due.sentence("Promise 21", "Whom m would ask if it took its TURN's last step now");
        int byRound = 0;
        int aged = 0;
        for (long seed = 1; seed <= 6; seed++) {
            Roll x = Crowds.hub(5, seed);
            for (int t = 1; t <= 11; t++) {
                x.turn(0);
                int place = x.state(0, 11);
                while (place < x.state(0, 10) && x.news(0, x.round(0, place), 0) > 2) {
                    place++;
                }
                if (place < x.state(0, 10)) {
                    int whom = x.round(0, place);
                    due.is("next(0) after TURN " + t, x.next(0), whom);
                    byRound++;
                    aged += x.news(0, whom, 0) == 2 && t + 1 - x.news(0, whom, 3) >= 5 ? 1 : 0;
                }
            }
        }
        due.holds("that was seen", byRound > 20);
        due.holds("with one that is GONE in the TURN to come, too", aged > 0);
    }

    private static void nextBeyond() {
        due.sentence("Promise 21", "BEYOND, MISSING, DOWN.");
        Roll x = Crowds.joined(3);
        for (int m : Crowds.OUTSIDE) {
            due.is("next(" + m + ")", x.next(m), BEYOND);
        }
        due.is("next(3)", x.next(3), MISSING);
        x.fall(0);
        x.leave(1);
        due.is("next(0), FALLEN", x.next(0), DOWN);
        due.is("next(1), AWAY", x.next(1), DOWN);
        x.rise(1);
        due.is("next(1), UP", x.next(1), 0);
    }

    private static void copy() {
        due.sentence("Promise 22", "n numbers of m's ROUND, from place from on, come to the TABLE, from place to on: n.");
        Roll x = Crowds.hub(6, 1L);
        x.turn(0);
        due.is("copy(0, 1, 3, 13)", x.copy(0, 1, 3, 13), 3);
        for (int i = 0; i < 16; i++) {
            due.is("table(" + i + ")", x.table(i), i < 13 ? NONE : x.round(0, i - 12));
        }
        due.is("copy(0, 0, 5, 11), all to the end", x.copy(0, 0, 5, 11), 5);
        for (int i = 11; i < 16; i++) {
            due.is("table(" + i + ")", x.table(i), x.round(0, i - 11));
        }
        due.is("copy(0, 4, 1, 0)", x.copy(0, 4, 1, 0), 1);
        due.is("table(0)", x.table(0), x.round(0, 4));
        due.is("table(1)", x.table(1), NONE);
        x.turn(0);
        due.is("places before where it stands, too", x.copy(0, 0, 1, 2), 1);
        due.is("table(2)", x.table(2), x.round(0, 0));
        x = Crowds.hub(64, 1L);
        x.turn(0);
        due.is("16 of 63", x.copy(0, 47, 16, 0), 16);
        due.is("table(15)", x.table(15), x.round(0, 62));
        due.is("17 of 63", x.copy(0, 0, 17, 0), COPY);
        x.fall(0);
        due.holds("the TABLE stays", x.table(15) > 0);
    }

    private static void copyOfNone() {
        due.sentence("Promise 22", "BELOW: n is below 0;");
        Roll x = Crowds.hub(4, 1L);
        due.is("copy(0, 0, 0, 0) without a ROUND", x.copy(0, 0, 0, 0), 0);
        due.is("copy(0, 0, 0, 16) without a ROUND", x.copy(0, 0, 0, 16), 0);
        due.is("copy(0, 0, -1, 0)", x.copy(0, 0, -1, 0), BELOW);
        due.is("copy(0, 0, min, 0)", x.copy(0, 0, MIN, 0), BELOW);
        due.is("before COPY, copy(0, -1, -1, -1)", x.copy(0, -1, -1, -1), BELOW);
        due.is("before COPY, copy(0, max, -1, max)", x.copy(0, MAX, -1, MAX), BELOW);
        for (int i = 0; i < 16; i++) {
            due.is("table(" + i + ")", x.table(i), NONE);
        }
    }

    private static void copyBeyond() {
        due.sentence("Promise 22", "BEYOND, MISSING;");
        Roll x = Crowds.strangers(1);
        for (int m : Crowds.OUTSIDE) {
            due.is("copy(" + m + ", 0, 0, 0)", x.copy(m, 0, 0, 0), BEYOND);
            due.is("before BELOW, copy(" + m + ", 0, -1, 0)", x.copy(m, 0, -1, 0), BEYOND);
        }
        due.is("copy(1, 0, 0, 0)", x.copy(1, 0, 0, 0), MISSING);
        due.is("before BELOW, copy(1, 0, -1, 0)", x.copy(1, 0, -1, 0), MISSING);
        due.is("before COPY, copy(1, -1, 0, 0)", x.copy(1, -1, 0, 0), MISSING);
    }

    private static void copyRefused() {
        due.sentence("Promise 22", "COPY: from or to is below 0, or from + n, to + n above how many ROUND, TABLE have.");
        Roll x = Crowds.hub(6, 1L);
        due.is("one of no ROUND", x.copy(0, 0, 1, 0), COPY);
        due.is("behind no ROUND", x.copy(0, 1, 0, 0), COPY);
        x.turn(0);
        int[][] wrong = {{-1, 1, 0}, {MIN, 1, 0}, {0, 1, -1}, {0, 1, MIN}, {-1, 0, 0}, {0, 0, -1}, {MIN, 0, MIN},
            {0, 6, 0}, {1, 5, 0}, {5, 1, 0}, {6, 0, 0}, {0, 3, 14}, {0, 1, 16}, {0, 0, 17}, {0, 0, MAX}, {MAX, 0, 0},
            {1, MAX, 0}, {0, MAX, 0}, {0, MAX, 1}, {MAX, MAX, 0}, {MAX, 1, 0}, {0, 1, MAX}, {MAX, MAX, MAX}, {0, 17, 0},
            {-3, 5, 0}, {0, 5, -3}, {MIN, MAX, 0}, {MIN, MAX, MIN}};
        for (int[] w : wrong) {
            due.is("copy(0, " + w[0] + ", " + w[1] + ", " + w[2] + ")", x.copy(0, w[0], w[1], w[2]), COPY);
        }
        for (int i = 0; i < 16; i++) {
            due.is("table(" + i + ")", x.table(i), NONE);
        }
        int[][] right = {{5, 0, 0}, {0, 0, 16}, {5, 0, 16}, {0, 5, 11}, {4, 1, 15}};
        for (int[] r : right) {
            due.is("copy(0, " + r[0] + ", " + r[1] + ", " + r[2] + ")", x.copy(0, r[0], r[1], r[2]), r[1]);
        }
    }

    private static void table() {
        due.sentence("Promise 23", "Number i of the TABLE. BEYOND: it is not 0 .. 15.");
        Roll x = Crowds.hub(4, 1L);
        x.turn(0);
        x.copy(0, 0, 3, 0);
        x.copy(0, 0, 3, 13);
        for (int i = 0; i < 16; i++) {
            due.is("table(" + i + ")", x.table(i), i < 3 ? x.round(0, i) : i < 13 ? NONE : x.round(0, i - 13));
        }
        due.is("a NONE there is no refusal", x.again(), CrowdRoll.NOTHING);
        for (int i : new int[] {-1, 16, 17, MIN, MAX}) {
            due.is("table(" + i + ")", x.table(i), BEYOND);
        }
    }

    public static void main(String[] args) {
        state();
        stateBeyond();
        news();
        newsBeyond();
        as();
        asBeyond();
        round();
        roundBeyond();
        next();
        nextIsTheLastStep();
        nextByTheRound();
        nextBeyond();
        copy();
        copyOfNone();
        copyBeyond();
        copyRefused();
        table();
        due.finish();
    }
}
