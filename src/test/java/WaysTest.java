/** Promises 27 to 30: the way by which news came, forged and checked. */
public final class WaysTest {
    private static final Due due = new Due();
    private static final int MISSING = CrowdRoll.MISSING;
    private static final int BEYOND = CrowdRoll.BEYOND;
    private static final int NONE = CrowdRoll.NONE;
    private static final int MIN = Integer.MIN_VALUE;
    private static final int MAX = Integer.MAX_VALUE;

    /** News of 3 goes to 2, 1, 0 by the letters 0, 2, 4, each answered by a FULL that stays under way. */
    private static Roll chain() {
        Roll x = Crowds.strangers(4);
        x.deliver(x.join(3, 2));
        x.deliver(x.join(2, 1));
        x.deliver(x.join(1, 0));
        return x;
    }

    private static void way(Roll x, int m, int of, int... letters) {
        due.is("way(" + m + ", " + of + ")", x.way(m, of), letters.length);
        for (int i = 0; i < letters.length; i++) {
            due.is("wayAt(" + i + ")", x.wayAt(i), letters[i]);
        }
        due.is("wayAt(" + letters.length + ")", x.wayAt(letters.length), BEYOND);
    }

    private static void ways() {
        due.sentence("Promise 27", "The WAY by which m's news of x came is told: the letter that brought it, the letter that"
                + " brought it to the sender of that (as that piece keeps it), and so on, to one that has NONE: how many.");
        Roll x = chain();
        way(x, 0, 3, 4, 2, 0);
        way(x, 1, 3, 2, 0);
        way(x, 2, 3, 0);
        way(x, 3, 3);
        way(x, 0, 2, 4, 2);
        due.part("a FULL brings it on");
        x.deliver(5);
        way(x, 1, 0, 5);
        due.part("news that the sender has anew since does not change it");
        x.fall(3);
        x.rise(3);
        x.deliver(x.join(3, 2));
        way(x, 0, 3, 4, 2, 0);
        way(x, 2, 3, 6);
    }

    /** News of 0 .. 5 goes from each to the next one: the way of 0 is as long as the crowd. */
    private static void longWay() {
        due.sentence("Promise 27", "and so on, to one that has NONE: how many.");
        Roll x = new Roll();
        x.member(0, 1L);
        for (int m = 1; m < 64; m++) {
            x.member(m, 1L);
            x.deliver(x.join(m - 1, m));
        }
        for (int of : new int[] {5, 0}) {
            due.is("way(63, " + of + ")", x.way(63, of), 63 - of);
            for (int i = 0; i < 63 - of; i++) {
                due.is("wayAt(" + i + ")", x.wayAt(i), 124 - 2 * i);
            }
            due.is("wayAt(" + (63 - of) + ")", x.wayAt(63 - of), BEYOND);
            due.is("check", x.check(63, of, 1, 1), 1);
        }
    }

    /** The same news on its way through the crowd: a way of each length stands. */
    private static void wayOfEachLength() {
        due.sentence("Promise 27", "and so on, to one that has NONE: how many.");
        Roll x = new Roll();
        x.member(0, 1L);
        for (int m = 1; m < 64; m++) {
            x.member(m, 1L);
            x.deliver(x.join(m - 1, m));
            due.is("way(" + m + ", 0)", x.way(m, 0), m);
            due.is("its last letter", x.wayAt(m - 1), 0);
            due.is("check", x.check(m, 0, 1, 1), 1);
        }
    }

    private static void wayOfCopy() {
        due.sentence("Promise 27", "the letter that brought it to the sender of that (as that piece keeps it)");
        Roll x = Crowds.strangers(3);
        x.deliver(x.join(2, 1));
        int join = x.join(1, 0);
        x.deliver(x.twice(join));
        due.part("a copy brings it by its own number");
        way(x, 0, 2, join + 1, 0);
        due.is("check", x.check(0, 2, 1, 1), 1);
    }

    private static void wayBeyond() {
        due.sentence("Promise 27", "BEYOND, MISSING.");
        Roll x = chain();
        x.way(0, 3);
        for (int m : Crowds.OUTSIDE) {
            due.is("way(" + m + ", 0)", x.way(m, 0), BEYOND);
            due.is("way(0, " + m + ")", x.way(0, m), BEYOND);
            due.is("before MISSING, way(9, " + m + ")", x.way(9, m), BEYOND);
        }
        due.is("no member 9", x.way(9, 0), MISSING);
        due.is("no news", x.way(0, 9), MISSING);
        due.is("no news of one that was made", x.way(3, 0), MISSING);
        due.is("a refused one leaves the WAY", x.wayAt(2), 0);
    }

    private static void wayAt() {
        due.sentence("Promise 28", "Letter i, from 0, of the WAY that was told last. BEYOND: there is none such.");
        Roll x = chain();
        due.is("wayAt(0) before any", x.wayAt(0), BEYOND);
        due.is("wayAt(-1) before any", x.wayAt(-1), BEYOND);
        x.way(0, 3);
        for (int i : new int[] {-1, 3, 4, 15, 16, MIN, MAX}) {
            due.is("wayAt(" + i + ")", x.wayAt(i), BEYOND);
        }
        due.is("wayAt(2)", x.wayAt(2), 0);
        x.way(1, 3);
        due.is("a shorter one, wayAt(1)", x.wayAt(1), 0);
        due.is("a shorter one, wayAt(2)", x.wayAt(2), BEYOND);
        x.way(0, 0);
        due.is("one of none, wayAt(0)", x.wayAt(0), BEYOND);
    }

    private static void wayStaysAsTold() {
        due.sentence("Promise 28", "the WAY that was told last");
        Roll x = chain();
        x.image();
        x.way(0, 3);
        x.fall(0);
        due.is("acts leave it", x.wayAt(0), 4);
        x.back();
        due.is("so does back()", x.wayAt(0), 4);
        x.replay();
        due.is("and replay()", x.wayAt(0), 4);
    }

    private static void forge() {
        due.sentence("Promise 29", "Letter i of the WAY that was told last becomes l (any int).");
        Roll x = chain();
        x.way(0, 3);
        for (int l : new int[] {MIN, -9, -3, -1, 0, 5, 6, 1200, MAX}) {
            due.is("forge(1, " + l + ")", x.forge(1, l), 1);
            due.is("wayAt(1)", x.wayAt(1), l);
            due.is("check", x.check(0, 3, 1, 1), 0);
        }
        due.is("what is read there is no refusal", x.again(), CrowdRoll.NOTHING);
        due.is("nor counted", x.status(BEYOND) + x.status(CrowdRoll.NO), 0);
        due.is("others stay, wayAt(0)", x.wayAt(0), 4);
        due.is("others stay, wayAt(2)", x.wayAt(2), 0);
        x.forge(1, 2);
        due.is("check of the WAY as it was", x.check(0, 3, 1, 1), 1);
        x.forge(0, 0);
        due.part("told anew it is as the books have it");
        way(x, 0, 3, 4, 2, 0);
        due.is("the books are not forged", x.letter(4, 0), 5);
    }

    private static void forgeBeyond() {
        due.sentence("Promise 29", "BEYOND: there is none such; 1 else.");
        Roll x = chain();
        due.is("before any", x.forge(0, 1), BEYOND);
        x.way(0, 3);
        for (int i : new int[] {-1, 3, 4, 15, 16, MIN, MAX}) {
            due.is("forge(" + i + ", 1)", x.forge(i, 1), BEYOND);
        }
        due.is("forge(2, 0)", x.forge(2, 0), 1);
        due.is("check", x.check(0, 3, 1, 1), 1);
        x.way(0, 0);
        due.is("of none", x.forge(0, 1), BEYOND);
    }

    private static void check() {
        due.sentence("Promise 30", "Whether the WAY that was told last stands in the books for news of x, of a KIND and TERM, on"
                + " m's ROLL: each is a LETTER that was delivered and not LOST, the first one's receiver is m, each other"
                + " one's receiver the sender of the one before; each has a piece with that x, KIND, TERM, the last one's"
                + " keeps NONE, each other one's keeps the next; a WAY of none only if that is what m says itself (its ROLL"
                + " has it, with NONE): 1, else 0.");
        Roll x = chain();
        x.way(0, 3);
        due.is("as told", x.check(0, 3, 1, 1), 1);
        due.is("another receiver", x.check(1, 3, 1, 1), 0);
        due.is("the sender", x.check(3, 3, 1, 1), 0);
        due.is("another x", x.check(0, 2, 1, 1), 0);
        due.is("an x that no letter tells of", x.check(0, 60, 1, 1), 0);
        for (int kind : new int[] {0, 2, 3, 4, 5, -1, MIN, MAX}) {
            due.is("KIND " + kind, x.check(0, 3, kind, 1), 0);
        }
        for (int term : new int[] {0, 2, -1, MIN, MAX}) {
            due.is("TERM " + term, x.check(0, 3, 1, term), 0);
        }
        x.way(1, 3);
        due.is("of one less", x.check(1, 3, 1, 1), 1);
        due.is("but for no other member", x.check(0, 3, 1, 1), 0);
        x.way(0, 2);
        due.is("of another x", x.check(0, 2, 1, 1), 1);
        x.fall(0);
        due.is("the books stay when the ROLL is forgotten", x.check(0, 2, 1, 1), 1);
    }

    private static void checkDelivered() {
        due.sentence("Promise 30", "each is a LETTER that was delivered and not LOST");
        Roll x = Crowds.strangers(3);
        int first = x.join(2, 1);
        int open = x.twice(first);
        int lost = x.twice(first);
        int gone = x.twice(first);
        int come = x.twice(first);
        x.deliver(first);
        x.deliver(come);
        x.lose(lost);
        x.cut(1, 2);
        x.deliver(gone);
        x.way(1, 2);
        int sent = x.letters(0);
        int[] none = {open, lost, gone, sent, sent + 1, NONE, MIN, MAX};
        for (int l : none) {
            x.forge(0, l);
            due.is("letter " + l, x.check(1, 2, 1, 1), 0);
        }
        x.forge(0, come);
        due.is("a copy that was delivered", x.check(1, 2, 1, 1), 1);
    }

    private static void checkReceiver() {
        due.sentence("Promise 30", "the first one's receiver is m, each other one's receiver the sender of the one before");
        Roll x = Crowds.strangers(4);
        x.deliver(x.join(3, 2));
        x.deliver(x.join(3, 1));
        x.way(2, 3);
        due.is("letter 0 is to 2", x.check(2, 3, 1, 1), 1);
        x.forge(0, 2);
        due.is("letter 2 is to 1", x.check(2, 3, 1, 1), 0);
        due.is("letter 2 is to 1", x.check(1, 3, 1, 1), 1);
        x.deliver(x.join(2, 0));
        x.way(0, 3);
        due.is("by 4, then 0", x.check(0, 3, 1, 1), 1);
        x.forge(1, 2);
        due.is("2 did not go to the sender of 4", x.check(0, 3, 1, 1), 0);
    }

    private static void checkKept() {
        due.sentence("Promise 30", "the last one's keeps NONE, each other one's keeps the next");
        Roll x = Crowds.strangers(3);
        int first = x.join(2, 1);
        int copy = x.twice(first);
        x.deliver(first);
        x.deliver(copy);
        int join = x.join(1, 0);
        x.deliver(join);
        x.way(0, 2);
        due.is("as told", x.check(0, 2, 1, 1), 1);
        x.forge(1, copy);
        due.is("a copy is not what the first one keeps", x.check(0, 2, 1, 1), 0);
        x.way(1, 2);
        x.forge(0, join);
        due.is("a last one that keeps another", x.check(0, 2, 1, 1), 0);
        due.is("a direct letter", x.deliver(x.join(2, 0)), 1);
        int direct = Crowds.lastLetter(x) - 1;
        x.way(0, 2);
        x.forge(0, direct);
        due.is("one before the last that keeps NONE", x.check(0, 2, 1, 1), 0);
        x.forge(1, NONE);
        due.is("with NONE behind it", x.check(0, 2, 1, 1), 0);
        x.forge(0, join);
        due.is("NONE for a letter", x.check(0, 2, 1, 1), 0);
    }

    private static void checkOwnWord() {
        due.sentence("Promise 30", "a WAY of none only if that is what m says itself (its ROLL has it, with NONE): 1, else 0.");
        Roll x = chain();
        due.is("its own word, before any WAY", x.check(0, 0, 1, 1), 1);
        due.is("way(0, 0)", x.way(0, 0), 0);
        due.is("its own word", x.check(0, 0, 1, 1), 1);
        due.is("another one's own word", x.check(2, 2, 1, 1), 1);
        due.is("what came by a letter", x.check(0, 1, 1, 1), 0);
        due.is("no news", x.check(0, 60, 1, 1), 0);
        due.is("no news, KIND 0, TERM 0", x.check(0, 60, 0, 0), 0);
        due.is("another KIND", x.check(0, 0, 4, 1), 0);
        due.is("another TERM", x.check(0, 0, 1, 2), 0);
        Crowds.turns(x, 2, 3);
        due.is("2 doubts 3", x.news(2, 3, 0), 2);
        due.is("way(2, 3)", x.way(2, 3), 0);
        due.is("a doubt is its own word", x.check(2, 3, 2, 1), 1);
        due.is("the news before it is not", x.check(2, 3, 1, 1), 0);
    }

    private static void checkBeyond() {
        due.sentence("Promise 30", "BEYOND (m, x), MISSING (m).");
        Roll x = chain();
        x.way(0, 3);
        for (int m : Crowds.OUTSIDE) {
            due.is("check(" + m + ", 0, 1, 1)", x.check(m, 0, 1, 1), BEYOND);
            due.is("check(0, " + m + ", 1, 1)", x.check(0, m, 1, 1), BEYOND);
            due.is("before MISSING, check(9, " + m + ", 1, 1)", x.check(9, m, 1, 1), BEYOND);
        }
        due.is("check(9, 3, 1, 1)", x.check(9, 3, 1, 1), MISSING);
        due.is("x need not be made", x.check(0, 9, 1, 1), 0);
    }

    /** Letters of the way that are no more: back() took them. */
    private static void checkAfterBack() {
        due.sentence("Promise 30", "stands in the books");
        Roll x = Crowds.strangers(4);
        x.deliver(x.join(3, 2));
        x.image();
        x.deliver(x.join(2, 1));
        x.way(1, 3);
        due.is("as told", x.check(1, 3, 1, 1), 1);
        x.back();
        due.is("its first letter is no more", x.check(1, 3, 1, 1), 0);
        due.is("but the WAY is as it was told", x.wayAt(0), 2);
    }

    public static void main(String[] args) {
        ways();
        longWay();
        wayOfEachLength();
        wayOfCopy();
        wayBeyond();
        wayAt();
        wayStaysAsTold();
        forge();
        forgeBeyond();
        check();
        checkDelivered();
        checkReceiver();
        checkKept();
        checkOwnWord();
        checkBeyond();
        checkAfterBack();
        due.finish();
    }
}
