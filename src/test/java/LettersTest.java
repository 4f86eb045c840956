/** Promises 13 to 16: letters, and which news goes on them. */
public final class LettersTest {
    private static final Due due = new Due();
    private static final int BEYOND = CrowdRoll.BEYOND;
    private static final int NO = CrowdRoll.NO;
    private static final int NONE = CrowdRoll.NONE;

    private static void letters() {
        due.part("promise 13");
        CrowdRoll x = Crowds.joined(3);
        int join = x.join(1, 2);
        x.twice(join);
        x.lose(join);
        due.is("sent", x.letters(0), 6);
        due.is("under way", x.letters(1), 1);
        due.is("delivered", x.letters(2), 4);
        due.is("lost", x.letters(3), 1);
        int pieces = 0;
        for (int l = 0; l < 6; l++) {
            pieces += x.letter(l, 4);
        }
        due.is("pieces, copies too", x.letters(4), pieces);
        due.is("pieces by hand", pieces, 1 + 2 + 1 + 3 + 2 + 2);
        due.is("letters(5)", x.letters(5), NO);
        due.is("letters(-1)", x.letters(-1), NO);
    }

    private static void underWay() {
        due.part("promise 14");
        CrowdRoll x = Crowds.strangers(2);
        for (int i = 0; i < 4; i++) {
            x.join(0, 1);
        }
        x.lose(0);
        x.deliver(2);
        due.is("underWay(0)", x.underWay(0), 1);
        due.is("underWay(1)", x.underWay(1), 3);
        due.is("underWay(2)", x.underWay(2), 4);
        due.is("underWay(3)", x.underWay(3), NONE);
        due.is("underWay(max)", x.underWay(Integer.MAX_VALUE), NONE);
        due.is("underWay(-1)", x.underWay(-1), BEYOND);
        due.is("underWay(min)", x.underWay(Integer.MIN_VALUE), BEYOND);
    }

    private static void letter() {
        due.part("promise 15");
        CrowdRoll x = Crowds.strangers(3);
        x.join(2, 1);
        int[] want = {5, 2, 1, NONE, 1, 0, NONE};
        for (int what = 0; what < want.length; what++) {
            due.is("letter(0, " + what + ")", x.letter(0, what), want[what]);
        }
        due.is("letter(0, 7)", x.letter(0, 7), NO);
        due.is("letter(0, -1)", x.letter(0, -1), NO);
        due.is("letter(1, 0)", x.letter(1, 0), BEYOND);
        due.is("letter(-1, 9): beyond before not as told", x.letter(-1, 9), BEYOND);
        x.deliver(0);
        due.is("delivered", x.letter(0, 5), 1);
        due.is("a join is answered by a whole roll", x.letter(1, 0), 6);
        due.is("to the sender", x.letter(1, 2), 2);
        due.is("about none", x.letter(1, 3), NONE);
    }

    private static void carries() {
        due.part("promise 16");
        CrowdRoll x = Crowds.joined(3);
        int[][] want = {{0, 1, 1, NONE}, {1, 1, 1, 0}, {2, 1, 1, 2}};
        for (int i = 0; i < 3; i++) {
            for (int what = 0; what < 4; what++) {
                due.is("carries(3, " + i + ", " + what + ")", x.carries(3, i, what), want[i][what]);
            }
        }
        due.is("carries(3, 3, 0)", x.carries(3, 3, 0), BEYOND);
        due.is("carries(3, -1, 0)", x.carries(3, -1, 0), BEYOND);
        due.is("carries(4, 0, 0)", x.carries(4, 0, 0), BEYOND);
        due.is("carries(-1, 0, 0)", x.carries(-1, 0, 0), BEYOND);
        due.is("carries(3, 3, 4): beyond before not as told", x.carries(3, 3, 4), BEYOND);
        due.is("carries(3, 0, 4)", x.carries(3, 0, 4), NO);
        due.is("carries(3, 0, -1)", x.carries(3, 0, -1), NO);
    }

    /** Six at most, those told least first, of equal ones by numbers. */
    private static void leastToldFirst() {
        due.part("promise 16, which news");
        CrowdRoll x = Crowds.joined(9);
        int[] first = {0, 1, 2, 3, 4, 5};
        int[] second = {6, 7, 8, 0, 1, 2};
        int[] third = {3, 4, 5, 6, 7, 8};
        int[][] want = {first, second, third, first};
        for (int round = 0; round < want.length; round++) {
            int l = x.join(0, 1);
            due.is("pieces", x.letter(l, 4), 6);
            for (int i = 0; i < 6; i++) {
                due.is("piece " + i + " of letter " + round, x.carries(l, i, 0), want[round][i]);
            }
        }
    }

    private static void toldEightTimes() {
        due.part("promise 16, told 8 times");
        CrowdRoll x = Crowds.strangers(2);
        for (int i = 1; i <= 8; i++) {
            due.is("pieces of letter " + i, x.letter(x.join(0, 1), 4), 1);
            due.is("told", x.news(0, 0, 2), i);
        }
        int bare = x.join(0, 1);
        due.is("the ninth has none", x.letter(bare, 4), 0);
        due.is("told", x.news(0, 0, 2), 8);
        due.is("no piece", x.carries(bare, 0, 0), BEYOND);
        due.is("a bare letter", x.deliver(bare), 1);
        due.is("nothing was taken", x.state(1, 3), 1);
        int whole = x.letters(0) - 1;
        x.deliver(x.join(1, 0));
        due.is("a whole roll has it all the same", x.letter(x.letters(0) - 1, 4), 2);
        due.is("the whole roll of 1", x.letter(whole, 4), 1);
    }

    public static void main(String[] args) {
        letters();
        underWay();
        letter();
        carries();
        leastToldFirst();
        toldEightTimes();
        due.finish();
    }
}
