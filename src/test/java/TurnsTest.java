import java.util.List;

/** "==== 3" of the document: turns and rounds. */
public final class TurnsTest {
    private static final Due due = new Due();
    private static final String PART = "==== 3";
    private static final int NONE = CrowdRoll.NONE;
    private static final int ASK = 1;
    private static final int BID = 2;
    private static final int ALIVE = 1;
    private static final int DOUBTED = 2;
    private static final int GONE = 3;
    private static final int LEFT = 4;

    private static void turnsAreMore() {
        due.sentence(PART, "A TURN of a member that is UP, in this order: its TURNS are one more.");
        Roll x = Crowds.joined(2);
        for (int t = 1; t <= 3; t++) {
            x.turn(0);
            due.is("TURNS", x.state(0, 2), t);
        }
        due.is("what is said in the third TURN has that number", x.news(0, 1, 3), 3);
        due.is("TURNS of another one", x.state(1, 2), 0);
        x.fall(0);
        x.turn(0);
        due.is("one that is not UP takes none", x.state(0, 2), 3);
    }

    private static void doubtEnds() {
        due.sentence(PART, "Then, by numbers, each one DOUBTED on its ROLL whose news came 5 TURNS before or more: it says"
                + " GONE of it, with that TERM.");
        Roll x = Crowds.joined(2);
        x.leave(1);
        x.rise(1);
        x.deliver(x.join(1, 0));
        Crowds.turns(x, 0, 3);
        for (int t = 3; t <= 7; t++) {
            due.news(x, 0, 1, DOUBTED, 2);
            due.is("came at TURN", x.news(0, 1, 3), 3);
            x.turn(0);
        }
        due.news(x, 0, 1, GONE, 2, 0, 8, NONE);
        Crowds.turns(x, 0, 6);
        due.part("GONE stays as it is");
        due.news(x, 0, 1, GONE, 2, 0, 8, NONE);
    }

    /** Member 1 doubts 0 and 3 at its turns 3 and 4; member 2 hears of both at its turn 2. */
    private static Roll twoDoubtsHeard() {
        Roll x = Crowds.strangers(4);
        x.deliver(x.join(0, 1));
        x.deliver(x.join(3, 1));
        Crowds.turns(x, 1, 4);
        Crowds.turns(x, 2, 2);
        x.deliver(x.join(1, 2));
        return x;
    }

    private static void heardDoubtsEnd() {
        due.sentence(PART, "each one DOUBTED on its ROLL whose news came 5 TURNS before or more");
        Roll x = twoDoubtsHeard();
        for (int t = 2; t <= 6; t++) {
            due.is("0 is DOUBTED at TURN " + t, x.news(2, 0, 0), DOUBTED);
            due.is("3 is DOUBTED at TURN " + t, x.news(2, 3, 0), DOUBTED);
            due.is("it came at TURN", x.news(2, 0, 3), 2);
            x.turn(2);
        }
        due.is("0 is GONE at TURN 7", x.news(2, 0, 0), GONE);
        due.is("3 is GONE at TURN 7", x.news(2, 3, 0), GONE);
        due.is("became GONE", x.trace(9), 2);
    }

    private static void doubtTakenBack() {
        due.sentence(PART, "DOUBTED on its ROLL whose news came 5 TURNS before");
        Roll x = Crowds.joined(2);
        Crowds.turns(x, 0, 6);
        due.news(x, 0, 1, DOUBTED, 1);
        x.deliver(Crowds.lastLetter(x));
        x.deliver(Crowds.lastLetter(x));
        due.news(x, 0, 1, ALIVE, 2);
        Crowds.turns(x, 0, 3);
        due.news(x, 0, 1, DOUBTED, 2);
        due.is("a doubt anew", x.news(0, 1, 3), 9);
        Crowds.turns(x, 0, 4);
        due.news(x, 0, 1, DOUBTED, 2);
        x.turn(0);
        due.news(x, 0, 1, GONE, 2);
    }

    private static void bidForNoMore() {
        due.sentence(PART, "Then, if it waits for one that it BID for: it does not any more; if its ROLL has ALIVE of that"
                + " it says DOUBTED of it, with that TERM.");
        Roll x = Crowds.joined(3);
        x.fall(1);
        x.rise(1);
        x.deliver(x.join(1, 0));
        x.fall(2);
        x.rise(2);
        x.deliver(x.join(2, 0));
        x.turn(0);
        int first = x.state(0, 8);
        x.turn(0);
        due.is("BID for", x.state(0, 9), first);
        due.news(x, 0, first, ALIVE, 2);
        x.turn(0);
        due.is("BID for another one", x.state(0, 9), 3 - first);
        due.news(x, 0, first, DOUBTED, 2);
        due.is("at this TURN", x.news(0, first, 3), 3);
        due.is("its own word", x.news(0, first, 4), NONE);
    }

    private static void doubtsAreNotRenewed() {
        due.sentence(PART, "if its ROLL has ALIVE of that it says DOUBTED of it");
        Roll x = Crowds.joined(2);
        Crowds.turns(x, 0, 4);
        due.part("one that is DOUBTED stays so, of the TURN when it came");
        due.news(x, 0, 1, DOUBTED, 1, 2, 3, NONE);
        Crowds.turns(x, 0, 5);
        due.part("one that is GONE stays so");
        due.news(x, 0, 1, GONE, 1, 0, 8, NONE);
        due.is("it does not wait any more", x.state(0, 9), NONE);
    }

    /** The one that was asked has left meanwhile: it is bid for all the same, but not doubted. */
    private static void askedOneLeft() {
        due.sentence(PART, "if its ROLL has ALIVE of that it says DOUBTED");
        Roll x = Crowds.star(3);
        x.turn(0);
        int gone = x.state(0, 8);
        Crowds.leaveStar(x, gone);
        due.is("0 has heard it", x.news(0, gone, 0), LEFT);
        int bid = x.letters(0);
        due.is("turn(0)", x.turn(0), 2);
        due.letter(x, bid, BID, 0, 3 - gone, gone);
        due.is("BID for", x.state(0, 9), gone);
        x.turn(0);
        due.is("it stays LEFT", x.news(0, gone, 0), LEFT);
        due.is("BID for no more", x.state(0, 9), 3 - gone);
    }

    private static void bids() {
        due.sentence(PART, "Then, if it waits for one that it asked the TURN before: it waits for it as BID for, and sends"
                + " BID, ABOUT it, to 3 others, drawn: of those of whom its ROLL has ALIVE or DOUBTED, but itself and that"
                + " one, by numbers in a row; one is drawn and taken out, again (fewer, if there are not so many).");
        for (int others = 1; others <= 9; others++) {
            for (long seed = -3; seed <= 3; seed++) {
                Roll x = Crowds.hub(others + 1, seed);
                Draws draws = new Draws(seed);
                List<Integer> row = Crowds.range(1, others);
                List<Integer> round = draws.round(row);
                due.is("a first turn has nothing to BID for", x.turn(0), 1);
                List<Integer> helpers = draws.three(Crowds.without(row, round.get(0)));
                int bid = x.letters(0);
                due.is("turn(0) of " + others + " others", x.turn(0), helpers.size() + 1);
                for (int i = 0; i < helpers.size(); i++) {
                    due.letter(x, bid + i, BID, 0, helpers.get(i), round.get(0));
                }
                due.is("BID for", x.state(0, 9), round.get(0));
            }
        }
    }

    /** Who is doubted may be bid to help, who is gone may not. */
    private static void helpersAreLiving() {
        due.sentence(PART, "of those of whom its ROLL has ALIVE or DOUBTED, but itself and that one");
        Roll x = Crowds.hub(5, 3L);
        int doubted = 0;
        int fewer = 0;
        for (int t = 1; t <= 12; t++) {
            int first = x.letters(0);
            int sent = x.turn(0);
            int living = x.state(0, 4) + x.state(0, 5) - 1;
            int helpers = 0;
            for (int l = first; l < first + sent; l++) {
                if (x.letter(l, 0) == BID) {
                    int kind = x.news(0, x.letter(l, 2), 0);
                    due.holds("a helper is ALIVE or DOUBTED", kind == ALIVE || kind == DOUBTED);
                    due.holds("nor the one that it is ABOUT", x.letter(l, 2) != x.letter(l, 3));
                    doubted += kind == DOUBTED ? 1 : 0;
                    helpers++;
                }
            }
            int about = x.state(0, 9);
            boolean left = about == NONE || x.news(0, about, 0) > DOUBTED;
            due.is("helpers at TURN " + t, helpers, about == NONE ? 0 : Math.min(3, left ? living : living - 1));
            fewer += living < 4 && helpers > 0 ? 1 : 0;
        }
        due.holds("some were DOUBTED", doubted > 0);
        due.holds("some were GONE", fewer > 0);
    }

    private static void asks() {
        due.sentence(PART, "Then it asks the NEXT one of its ROUND: it sends ASK, ABOUT NONE, and waits for it as asked.");
        Roll x = Crowds.hub(5, 9L);
        List<Integer> round = new Draws(9L).round(Crowds.range(1, 4));
        for (int i = 0; i < 4; i++) {
            int sent = x.turn(0);
            due.letter(x, Crowds.lastLetter(x), ASK, 0, round.get(i), NONE);
            due.is("asked", x.state(0, 8), round.get(i));
            due.is("letters, the ASK is the last", sent, i == 0 ? 1 : 4);
        }
    }

    private static void roundIsMade() {
        due.sentence(PART, "A ROUND that is made: all others of whom the ROLL has ALIVE or DOUBTED, by numbers; then for i"
                + " from the last place to 1: the one at i and that at a DRAW of i + 1 change places.");
        for (int others = 1; others <= 8; others++) {
            for (long seed = -2; seed <= 2; seed++) {
                Roll x = Crowds.hub(others + 1, seed);
                x.turn(0);
                due.round(x, 0, new Draws(seed).round(Crowds.range(1, others)));
            }
        }
        Roll x = Crowds.hub(64, 5L);
        x.turn(0);
        due.round(x, 0, new Draws(5L).round(Crowds.range(1, 63)));
    }

    /** A round of one is made without a draw, so the next one begins with the seed as it was. */
    private static void roundOfOne() {
        due.sentence(PART, "then for i from the last place to 1");
        Roll x = new Roll();
        x.member(5, 123L);
        x.member(1, 1L);
        x.deliver(x.join(1, 5));
        x.turn(5);
        due.round(x, 5, List.of(1));
        x.deliver(2);
        x.deliver(3);
        due.is("1 has answered", x.state(5, 8), NONE);
        for (int m = 6; m <= 9; m++) {
            x.member(m, 1L);
            x.deliver(x.join(m, 5));
        }
        due.is("no BID, no DRAW before the ROUND", x.turn(5), 1);
        due.round(x, 5, new Draws(123L).round(List.of(1, 6, 7, 8, 9)));
    }

    private static void roundHasTheLiving() {
        due.sentence(PART, "all others of whom the ROLL has ALIVE or DOUBTED, by numbers");
        Roll x = Crowds.star(4);
        Crowds.leaveStar(x, 3);
        due.is("3 LEFT", x.news(0, 3, 0), LEFT);
        Crowds.turns(x, 0, 5);
        due.is("1 is DOUBTED", x.news(0, 1, 0), DOUBTED);
        due.is("2 is DOUBTED", x.news(0, 2, 0), DOUBTED);
        due.is("a ROUND of both", x.state(0, 10), 2);
        Crowds.turns(x, 0, 3);
        due.is("one is GONE at TURN 8", x.state(0, 6), 1);
        x.turn(0);
        due.is("the other at TURN 9", x.state(0, 6), 2);
        due.is("a ROUND of none", x.state(0, 10), 0);
    }

    private static void nextOfRound() {
        due.sentence(PART, "NEXT: from where the ROUND stands (at first at its first place) the first of whom the ROLL has"
                + " still ALIVE or DOUBTED; if there is none, or no ROUND, a ROUND is made, and its first one is NEXT"
                + " (nothing is asked if that has none).");
        Roll x = Crowds.star(5);
        x.turn(0);
        due.is("the first place", x.state(0, 8), x.round(0, 0));
        int second = x.round(0, 1);
        int third = x.round(0, 2);
        int fourth = x.round(0, 3);
        Crowds.leaveStar(x, second);
        x.turn(0);
        due.is("one that LEFT is passed over", x.state(0, 8), third);
        due.is("the ROUND keeps it", x.round(0, 1), second);
        due.is("no ROUND is made for that", x.trace(11), 1);
        Crowds.leaveStar(x, fourth);
        x.turn(0);
        due.is("none is left of this ROUND", x.trace(11), 2);
        due.is("the new one", x.state(0, 10), 2);
        due.is("its first one", x.state(0, 8), x.round(0, 0));
        x.turn(0);
        due.is("its last one", x.state(0, 8), x.round(0, 1));
        x.turn(0);
        due.is("a ROUND that is at its end", x.trace(11), 3);
    }

    private static void nothingIsAsked() {
        due.sentence(PART, "a ROUND is made, and its first one is NEXT (nothing is asked if that has none)");
        Roll x = Crowds.strangers(2);
        for (int t = 1; t <= 2; t++) {
            due.is("turn(0)", x.turn(0), 0);
            due.is("asked", x.state(0, 8), NONE);
            due.is("letters", x.letters(0), 0);
            due.is("its ROUND", x.state(0, 10), 0);
            due.is("its place", x.state(0, 11), 0);
        }
        x.deliver(x.join(1, 0));
        due.is("a ROUND of none is made anew", x.turn(0), 1);
        due.is("asked", x.state(0, 8), 1);
    }

    private static void newOnesWait() {
        due.sentence(PART, "the first of whom the ROLL has still ALIVE or DOUBTED");
        Roll x = Crowds.joined(3);
        x.turn(0);
        x.member(9, 9L);
        x.deliver(x.join(9, 0));
        due.is("a ROUND does not grow", x.state(0, 10), 2);
        due.is("NEXT", x.next(0), x.round(0, 1));
        Crowds.turns(x, 0, 2);
        due.is("the next ROUND has it", x.state(0, 10), 3);
        x = Crowds.joined(2);
        Crowds.turns(x, 0, 4);
        due.is("one that is DOUBTED", x.news(0, 1, 0), DOUBTED);
        due.is("is asked all the same", x.state(0, 8), 1);
    }

    private static void standsBehind() {
        due.sentence(PART, "It stands behind that one then.");
        Roll x = Crowds.star(5);
        due.is("without a ROUND", x.state(0, 11), 0);
        x.turn(0);
        due.is("place", x.state(0, 11), 1);
        Crowds.leaveStar(x, x.round(0, 1));
        x.turn(0);
        due.is("behind one that was passed over, too", x.state(0, 11), 3);
        x.turn(0);
        due.is("at the end", x.state(0, 11), 4);
        x.turn(0);
        due.is("of a new ROUND", x.state(0, 11), 1);
    }

    private static void waits() {
        due.sentence(PART, "(A member waits for one at most as asked, one as BID for; who is asked anew while it is BID for"
                + " waits as both; ANSWERED ends both.)");
        Roll x = Crowds.joined(2);
        x.turn(0);
        due.is("asked", x.state(0, 8), 1);
        due.is("BID for", x.state(0, 9), NONE);
        x.turn(0);
        due.is("asked", x.state(0, 8), 1);
        due.is("BID for", x.state(0, 9), 1);
        x.deliver(2);
        x.deliver(4);
        due.is("asked no more", x.state(0, 8), NONE);
        due.is("BID for no more", x.state(0, 9), NONE);
        due.is("no BID, no doubt", x.turn(0), 1);
        due.is("ALIVE", x.news(0, 1, 0), ALIVE);
        x = Crowds.hub(4, 2L);
        x.turn(0);
        int first = x.state(0, 8);
        x.turn(0);
        int second = x.state(0, 8);
        due.is("BID for", x.state(0, 9), first);
        x.turn(0);
        due.is("one is waited for no more", x.state(0, 9), second);
        due.holds("another one is asked", x.state(0, 8) != first && x.state(0, 8) != second);
    }

    /** 2 helps and leaves; 0, which knows 1 alone by then, waits for it as both when the PASSED comes. */
    private static void passedEndsBoth() {
        due.sentence(PART, "ANSWERED ends both.");
        Roll x = Crowds.star(3);
        while (x.state(0, 9) != 1 && x.callsLeft() > 100) {
            x.turn(0);
        }
        int bid = x.letters(0) - 2;
        due.letter(x, bid, BID, 0, 2, 1);
        x.deliver(bid);
        x.deliver(bid + 2);
        x.deliver(bid + 3);
        int passed = bid + 4;
        due.letter(x, passed, 4, 2, 0, 1);
        Crowds.leaveStar(x, 2);
        Crowds.turns(x, 0, 2);
        due.is("asked", x.state(0, 8), 1);
        due.is("BID for", x.state(0, 9), 1);
        x.deliver(passed);
        due.is("asked no more", x.state(0, 8), NONE);
        due.is("BID for no more", x.state(0, 9), NONE);
    }

    public static void main(String[] args) {
        turnsAreMore();
        doubtEnds();
        heardDoubtsEnd();
        doubtTakenBack();
        bidForNoMore();
        doubtsAreNotRenewed();
        askedOneLeft();
        bids();
        helpersAreLiving();
        asks();
        roundIsMade();
        roundOfOne();
        roundHasTheLiving();
        nextOfRound();
        nothingIsAsked();
        newOnesWait();
        standsBehind();
        waits();
        passedEndsBoth();
        due.finish();
    }
}
