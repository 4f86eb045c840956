/** Promises 13 to 16: what is told of letters. */
public final class LettersTest {
    private static final Due due = new Due();
    private static final int BEYOND = CrowdRoll.BEYOND;
    private static final int NO = CrowdRoll.NO;
    private static final int NONE = CrowdRoll.NONE;

    private static void are(Roll x, int... want) {
        for (int what = 0; what < want.length; what++) {
            due.is("letters(" + what + ")", x.letters(what), want[what]);
        }
    }

    private static void letters() {
        due.sentence("Promise 13", "How many LETTERS were sent (what = 0), are UNDER WAY (1), were delivered and not LOST (2),"
                + " LOST (3), pieces on all (4).");
        Roll x = Crowds.joined(3);
        are(x, 4, 0, 4, 0, 1 + 2 + 1 + 3);
        int join = x.join(1, 2);
        are(x, 5, 1, 4, 0, 9);
        x.twice(join);
        due.part("pieces on a copy are counted, too");
        are(x, 6, 2, 4, 0, 11);
        x.lose(join);
        due.part("pieces on one that is LOST stay");
        are(x, 6, 1, 4, 1, 11);
        x.fall(2);
        x.deliver(join + 1);
        due.part("one that is LOST when it is delivered is LOST");
        are(x, 6, 0, 4, 2, 11);
    }

    private static void lettersOfNothing() {
        due.sentence("Promise 13", "NO: another what.");
        Roll x = Crowds.joined(2);
        for (int what : new int[] {-1, 5, 6, Integer.MIN_VALUE, Integer.MAX_VALUE}) {
            due.is("letters(" + what + ")", x.letters(what), NO);
        }
        due.is("refused", x.status(NO), 5);
    }

    private static void underWay() {
        due.sentence("Promise 14", "The k-th LETTER, from 0, that is UNDER WAY, by numbers.");
        Roll x = Crowds.strangers(2);
        for (int i = 0; i < 6; i++) {
            x.join(0, 1);
        }
        x.lose(0);
        x.deliver(2);
        x.cut(0, 1);
        x.deliver(4);
        int[] open = {1, 3, 5, 6};
        for (int k = 0; k < open.length; k++) {
            due.is("underWay(" + k + ")", x.underWay(k), open[k]);
        }
        due.is("underWay(4)", x.underWay(4), NONE);
    }

    private static void underWayBelow() {
        due.sentence("Promise 14", "BEYOND: k is below 0; NONE: there are not so many.");
        Roll x = Crowds.strangers(2);
        due.is("underWay(0) of no letter", x.underWay(0), NONE);
        x.join(0, 1);
        due.is("underWay(0)", x.underWay(0), 0);
        due.is("underWay(1)", x.underWay(1), NONE);
        due.is("underWay(max)", x.underWay(Integer.MAX_VALUE), NONE);
        due.is("NONE is no refusal", x.again(), CrowdRoll.NOTHING);
        due.is("underWay(-1)", x.underWay(-1), BEYOND);
        due.is("underWay(min)", x.underWay(Integer.MIN_VALUE), BEYOND);
        due.is("BEYOND is one", x.status(BEYOND), 2);
    }

    private static void letter() {
        due.sentence("Promise 15", "Of a LETTER: its KIND (what = 0), sender (1), receiver (2), ABOUT (3), how many pieces (4),"
                + " 0 UNDER WAY, 1 delivered, 2 LOST (5), the letter it is a copy of, or NONE (6).");
        Roll x = Crowds.strangers(3);
        x.join(2, 1);
        due.letter(x, 0, 5, 2, 1, NONE, 1, 0, NONE);
        x.twice(0);
        x.twice(0);
        due.letter(x, 1, 5, 2, 1, NONE, 1, 0, 0);
        due.letter(x, 2, 5, 2, 1, NONE, 1, 0, 0);
        x.deliver(0);
        x.lose(1);
        due.letter(x, 0, 5, 2, 1, NONE, 1, 1, NONE);
        due.letter(x, 1, 5, 2, 1, NONE, 1, 2, 0);
        due.letter(x, 3, 6, 1, 2, NONE, 2, 0, NONE);
        x = Crowds.star(3);
        Crowds.turns(x, 0, 2);
        int bid = x.letters(0) - 2;
        due.letter(x, bid, 2, 0, x.state(0, 8), x.state(0, 9), 3, 0, NONE);
    }

    private static void letterBeyond() {
        due.sentence("Promise 15", "BEYOND; NO: another what.");
        Roll x = Crowds.strangers(2);
        due.is("letter(0, 0) of no letter", x.letter(0, 0), BEYOND);
        x.join(0, 1);
        for (int l : new int[] {-1, 1, Integer.MIN_VALUE, Integer.MAX_VALUE}) {
            due.is("letter(" + l + ", 0)", x.letter(l, 0), BEYOND);
            due.is("letter(" + l + ", 7)", x.letter(l, 7), BEYOND);
        }
        for (int what : new int[] {-1, 7, 8, Integer.MIN_VALUE, Integer.MAX_VALUE}) {
            due.is("letter(0, " + what + ")", x.letter(0, what), NO);
        }
    }

    private static void carries() {
        due.sentence("Promise 16", "Of piece i on a LETTER: whom it is of (what = 0), its KIND (1), TERM (2), the letter that"
                + " brought it to the sender, or NONE (3).");
        Roll x = Crowds.joined(3);
        due.piece(x, 3, 0, 0, 1, 1, NONE);
        due.piece(x, 3, 1, 1, 1, 1, 0);
        due.piece(x, 3, 2, 2, 1, 1, 2);
        x.fall(1);
        x.rise(1);
        x.leave(1);
        due.is("1 knows nobody after its fall", x.letters(0), 4);
        x.rise(1);
        Crowds.meet(x, 1, 0);
        x.leave(1);
        due.part("LEFT, TERM 3");
        due.piece(x, Crowds.lastLetter(x), 1, 1, 4, 3, NONE);
    }

    private static void carriesBeyond() {
        due.sentence("Promise 16", "BEYOND: no such letter, piece; NO: another what.");
        Roll x = Crowds.joined(3);
        due.is("carries(3, 2, 0)", x.carries(3, 2, 0), 2);
        due.is("carries(3, 3, 0)", x.carries(3, 3, 0), BEYOND);
        due.is("carries(3, 3, 9): before NO", x.carries(3, 3, 9), BEYOND);
        for (int i : new int[] {-1, Integer.MIN_VALUE, Integer.MAX_VALUE}) {
            due.is("carries(3, " + i + ", 0)", x.carries(3, i, 0), BEYOND);
        }
        for (int l : new int[] {-1, 4, Integer.MIN_VALUE, Integer.MAX_VALUE}) {
            due.is("carries(" + l + ", 0, 0)", x.carries(l, 0, 0), BEYOND);
        }
        for (int what : new int[] {-1, 4, 5, Integer.MIN_VALUE, Integer.MAX_VALUE}) {
            due.is("carries(3, 0, " + what + ")", x.carries(3, 0, what), NO);
        }
        due.is("another letter's piece, carries(0, 1, 0)", x.carries(0, 1, 0), BEYOND);
        x = Crowds.strangers(2);
        for (int i = 0; i < 9; i++) {
            x.join(0, 1);
        }
        due.is("a letter without pieces", x.carries(8, 0, 0), BEYOND);
    }

    public static void main(String[] args) {
        letters();
        lettersOfNothing();
        underWay();
        underWayBelow();
        letter();
        letterBeyond();
        carries();
        carriesBeyond();
        due.finish();
    }
}
