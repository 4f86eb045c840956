import java.util.List;

/** "==== 1" of the document: news that beats news, members, draws, taking and saying. */
public final class NewsTest {
    private static final Due due = new Due();
    private static final String PART = "==== 1";
    private static final int BEYOND = CrowdRoll.BEYOND;
    private static final int MISSING = CrowdRoll.MISSING;
    private static final int NONE = CrowdRoll.NONE;
    private static final long[] SEEDS = {0L, 1L, -1L, 42L, Long.MAX_VALUE, Long.MIN_VALUE, 1L << 32, -1L << 32,
        0x7FFFFFFFL, 0x80000000L, 0xFFFFFFFFL, 6364136223846793005L, -1442695040888963407L};
    /** KIND and TERM of the news of member 0 on each of the letters that lettersOf0 makes. */
    private static final int[][] LETTERS_OF_0 = {{1, 1}, {2, 1}, {3, 1}, {4, 1}, {1, 2}, {4, 2}};

    private static void kinds() {
        due.sentence(PART, "NEWS of a member: a KIND, 1 ALIVE, 2 DOUBTED, 3 GONE, 4 LEFT, and a TERM.");
        Roll x = Crowds.joined(2);
        due.news(x, 0, 1, 1, 1);
        Crowds.turns(x, 0, 3);
        due.news(x, 0, 1, 2, 1);
        Crowds.turns(x, 0, 5);
        due.news(x, 0, 1, 3, 1);
        x.leave(1);
        due.news(x, 1, 1, 4, 1);
        x.rise(1);
        due.news(x, 1, 1, 1, 2);
    }

    /** Letters to member 1 with news of member 0, in the order of LETTERS_OF_0; 1 has no news of 0 yet. */
    private static int[] lettersOf0(Roll x) {
        x.deliver(x.join(0, 2));
        x.deliver(x.join(1, 0));
        int alive = 3;
        Crowds.turns(x, 2, 3);
        int doubted = x.join(2, 1);
        Crowds.turns(x, 2, 5);
        int gone = x.join(2, 1);
        x.leave(0);
        int left = Crowds.lastLetter(x);
        x.rise(0);
        int aliveAgain = x.join(0, 1);
        x.leave(0);
        int leftAgain = Crowds.lastLetter(x);
        return new int[] {alive, doubted, gone, left, aliveAgain, leftAgain};
    }

    private static void beats() {
        due.sentence(PART, "One piece BEATS another one of the same member if its TERM is greater, or its TERM is the"
                + " same and its KIND greater; any beats none.");
        for (int first = 0; first < LETTERS_OF_0.length; first++) {
            for (int then = 0; then < LETTERS_OF_0.length; then++) {
                Roll x = Crowds.strangers(3);
                int[] letters = lettersOf0(x);
                due.is("no news at first", x.news(1, 0, 0), MISSING);
                int second = first == then ? x.twice(letters[then]) : letters[then];
                x.deliver(letters[first]);
                int[] had = LETTERS_OF_0[first];
                due.is("any beats none", x.news(1, 0, 4), letters[first]);
                due.news(x, 1, 0, had[0], had[1]);
                x.deliver(second);
                int[] came = LETTERS_OF_0[then];
                boolean beats = came[1] > had[1] || came[1] == had[1] && came[0] > had[0];
                String both = "KIND " + came[0] + " TERM " + came[1] + " after KIND " + had[0] + " TERM " + had[1];
                due.is(both, x.news(1, 0, 4), beats ? second : letters[first]);
                due.news(x, 1, 0, beats ? came[0] : had[0], beats ? came[1] : had[1]);
            }
        }
    }

    private static void members() {
        due.sentence(PART, "MEMBERS are 0 .. 63;");
        Roll x = new Roll();
        due.is("member(0)", x.member(0, 1L), 1);
        due.is("member(63)", x.member(63, 1L), 2);
        due.is("join(63, 0)", x.join(63, 0), 0);
        due.is("deliver(0)", x.deliver(0), 1);
        due.is("deliver(1)", x.deliver(1), 0);
        due.is("news(0, 63, 0)", x.news(0, 63, 0), 1);
        due.is("news(63, 0, 0)", x.news(63, 0, 0), 1);
        String[] ofOne = {"member", "leave", "turn", "fall", "rise", "state", "round", "next", "copy", "count"};
        String[] ofTwo = {"join", "cut", "heal", "news", "as", "way", "check"};
        for (int m : Crowds.OUTSIDE) {
            for (String name : ofOne) {
                due.is(name + " of " + m, x.call(name, m, 0, 0, 0), BEYOND);
            }
            for (String name : ofTwo) {
                due.is(name + " of " + m + " and 0", x.call(name, m, 0, 1, 1), BEYOND);
                due.is(name + " of 0 and " + m, x.call(name, 0, m, 1, 1), BEYOND);
                due.is(name + " of " + m + " twice", x.call(name, m, m, 1, 1), BEYOND);
                due.is(name + " of 5, not made, and " + m, x.call(name, 5, m, 1, 1), BEYOND);
            }
        }
    }

    private static void made() {
        due.sentence(PART, "one that was made is UP, FALLEN or AWAY, has a SEED (a long), a TERM (1 at first), how many"
                + " TURNS it took, a ROLL: of each member a piece of news or none, with how often it was TOLD, the TURN"
                + " at which it came, and the LETTER that brought it (NONE: no letter, its own word).");
        Roll x = new Roll();
        x.member(63, 7L);
        int[] fresh = {0, 1, 0, 1, 1, 0, 0, 0, NONE, NONE, 0, 0};
        for (int what = 0; what < fresh.length; what++) {
            due.is("state(63, " + what + ")", x.state(63, what), fresh[what]);
        }
        due.news(x, 63, 63, 1, 1, 0, 0, NONE);
        for (int m = 0; m < 63; m++) {
            due.is("news(63, " + m + ", 0)", x.news(63, m, 0), MISSING);
        }
        x.member(0, 8L);
        x.turn(63);
        x.turn(0);
        x.turn(0);
        due.is("TURNS", x.state(0, 2), 2);
        x.deliver(x.join(63, 0));
        due.news(x, 0, 63, 1, 1, 0, 2, 0);
        x.fall(0);
        due.is("FALLEN", x.state(0, 0), 1);
        x.leave(63);
        due.is("AWAY", x.state(63, 0), 2);
    }

    private static void seedIsLong() {
        due.sentence(PART, "has a SEED (a long)");
        for (long seed : SEEDS) {
            Roll x = Crowds.hub(9, seed);
            x.turn(0);
            due.part("SEED " + seed);
            due.round(x, 0, new Draws(seed).round(Crowds.range(1, 8)));
        }
    }

    private static void ofItself() {
        due.sentence(PART, "Of itself its ROLL has ALIVE with its TERM (LEFT when it is AWAY).");
        Roll x = Crowds.joined(3);
        due.news(x, 1, 1, 1, 1);
        x.fall(1);
        due.news(x, 1, 1, 1, 1);
        x.rise(1);
        due.news(x, 1, 1, 1, 2);
        x.leave(1);
        due.news(x, 1, 1, 4, 2);
        x.rise(1);
        due.news(x, 1, 1, 1, 3);
        due.is("its TERM", x.state(1, 1), 3);
    }

    private static void draw() {
        due.sentence(PART, "DRAW by a SEED, of n (1 or more): the SEED becomes it times 6364136223846793005 and"
                + " 1442695040888963407 (wrapping); the draw is its 31 highest bits modulo n.");
        for (long seed : SEEDS) {
            for (int others = 1; others <= 7; others++) {
                Roll x = Crowds.hub(others + 1, seed);
                int first = 2 * others;
                List<Integer> drawn = new Draws(seed).three(Crowds.range(1, others));
                due.is("leave(0), SEED " + seed, x.leave(0), drawn.size());
                for (int i = 0; i < drawn.size(); i++) {
                    due.is("receiver " + i + " of " + others + ", SEED " + seed, x.letter(first + i, 2), drawn.get(i));
                }
            }
        }
    }

    /** A draw of one has but one end, yet the seed goes on by it: the next round shows it. */
    private static void drawOfOne() {
        due.sentence(PART, "DRAW by a SEED, of n (1 or more)");
        Roll x = new Roll();
        x.member(0, 77L);
        for (int m = 1; m <= 5; m++) {
            x.member(m, 1L);
        }
        x.deliver(x.join(1, 0));
        due.is("leave(0), one is drawn of one", x.leave(0), 1);
        x.rise(0);
        for (int m = 2; m <= 5; m++) {
            x.deliver(x.join(m, 0));
        }
        x.turn(0);
        Draws draws = new Draws(77L);
        draws.draw(1);
        due.round(x, 0, draws.round(Crowds.range(1, 5)));
    }

    /** TOLD of its own news shows whether it was said anew: 0 is told ALIVE, DOUBTED, then DOUBTED of a TERM below. */
    private static void takesOfItself() {
        due.sentence(PART, "A member TAKES a piece (of letter l): of itself: if it is not ALIVE and its TERM not below"
                + " the member's, the member's TERM becomes that and 1, and it SAYS ALIVE of itself; else nothing.");
        Roll x = Crowds.joined(2);
        Crowds.turns(x, 0, 2);
        due.news(x, 0, 0, 1, 1, 2, 0, NONE);
        int alive = x.join(1, 0);
        due.piece(x, alive, 0, 0, 1, 1);
        x.deliver(alive);
        due.news(x, 0, 0, 1, 1, 2, 0, NONE);
        due.is("ALIVE of the same TERM is nothing", x.trace(10), 0);
        Crowds.turns(x, 1, 3);
        int doubt = x.join(1, 0);
        int again = x.twice(doubt);
        due.piece(x, doubt, 0, 0, 2, 1);
        x.deliver(doubt);
        due.news(x, 0, 0, 1, 2, 0, 2, NONE);
        due.is("its TERM", x.state(0, 1), 2);
        due.is("a refutation", x.trace(10), 1);
        x.join(0, 1);
        due.news(x, 0, 0, 1, 2, 1, 2, NONE);
        x.deliver(again);
        due.news(x, 0, 0, 1, 2, 1, 2, NONE);
        due.is("a TERM below is nothing", x.trace(10), 1);
        due.is("its TERM", x.state(0, 1), 2);
    }

    private static void takesGoneAndLeft() {
        due.sentence(PART, "of itself: if it is not ALIVE and its TERM not below the member's, the member's TERM becomes"
                + " that and 1");
        Roll x = Crowds.joined(2);
        Crowds.turns(x, 1, 8);
        due.is("GONE of 0", x.news(1, 0, 0), 3);
        x.deliver(x.join(1, 0));
        due.is("GONE is refuted", x.state(0, 1), 2);
        x = Crowds.joined(2);
        x.leave(1);
        x.deliver(Crowds.lastLetter(x));
        due.is("LEFT of 1", x.news(0, 1, 0), 4);
        x.rise(1);
        x.deliver(x.join(0, 1));
        due.is("LEFT of a TERM below is nothing", x.state(1, 1), 2);
        due.is("no refutation", x.trace(10), 0);
    }

    private static void takesOfAnother() {
        due.sentence(PART, "Of another one: if it beats what the ROLL has it comes there, TOLD 0, with the TURN and l;"
                + " else nothing.");
        Roll x = Crowds.strangers(2);
        x.turn(1);
        int join = x.join(0, 1);
        int copy = x.twice(join);
        x.deliver(join);
        due.news(x, 1, 0, 1, 1, 0, 1, join);
        x.lose(x.join(1, 0));
        x.turn(1);
        due.news(x, 1, 0, 1, 1, 2, 1, join);
        x.deliver(copy);
        due.news(x, 1, 0, 1, 1, 2, 1, join);
        x.fall(0);
        x.rise(0);
        int greater = x.join(0, 1);
        x.deliver(greater);
        due.news(x, 1, 0, 1, 2, 0, 2, greater);
    }

    private static void says() {
        due.sentence(PART, "To SAY something of one: it comes to the ROLL likewise, TOLD 0, with the TURN, letter NONE.");
        Roll x = Crowds.joined(2);
        Crowds.turns(x, 0, 2);
        due.news(x, 0, 1, 1, 1, 2, 0, 0);
        x.turn(0);
        due.part("DOUBTED is said at TURN 3, and told on that TURN's letter");
        due.news(x, 0, 1, 2, 1, 1, 3, NONE);
        Crowds.turns(x, 0, 5);
        due.part("GONE is said at TURN 8, which sends no letter");
        due.news(x, 0, 1, 3, 1, 0, 8, NONE);
        Crowds.turns(x, 1, 2);
        due.part("LEFT is said at TURN 2 of its own");
        x.leave(1);
        due.news(x, 1, 1, 4, 1, 0, 2, NONE);
        due.part("ALIVE is said by a rise");
        x.rise(1);
        due.news(x, 1, 1, 1, 2, 0, 2, NONE);
    }

    public static void main(String[] args) {
        kinds();
        beats();
        members();
        made();
        seedIsLong();
        ofItself();
        draw();
        drawOfOne();
        takesOfItself();
        takesGoneAndLeft();
        takesOfAnother();
        says();
        due.finish();
    }
}
