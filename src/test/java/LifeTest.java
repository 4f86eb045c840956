import java.util.ArrayList;
import java.util.List;

/** "What it is": one crowd of five that lives through all that the document's first sentence tells. */
public final class LifeTest {
    private static final Due due = new Due();
    private static final String PART = "What it is";
    private static final int NONE = CrowdRoll.NONE;
    private static final int ASK = 1;
    private static final int BID = 2;
    private static final int ALIVE = 1;
    private static final int DOUBTED = 2;
    private static final int CROWD = 5;

    /** All know all. */
    private static Roll crowd() {
        Roll x = Crowds.joined(CROWD);
        for (int m = 1; m < CROWD - 1; m++) {
            Crowds.meet(x, m, 0);
        }
        return x;
    }

    /** Takes turns till it asks this one; answers the number of the letter, which stays under way. */
    private static int turnTillItAsks(Roll x, int m, int whom) {
        while (x.next(m) != whom) {
            x.turn(m);
            Crowds.deliverAll(x);
        }
        x.turn(m);
        return Crowds.lastLetter(x);
    }

    private static void asking() {
        due.sentence(PART, "A roll of the living: members of a crowd ask one another in rounds of their own,");
        Roll x = crowd();
        due.is("all know all", x.agree(), 1);
        for (int m = 0; m < CROWD; m++) {
            List<Integer> others = Crowds.without(Crowds.range(0, CROWD - 1), m);
            List<Integer> order = new Draws(m + 1L).round(others);
            List<Integer> asked = new ArrayList<>();
            for (int i = 0; i < others.size(); i++) {
                x.turn(m);
                int l = Crowds.lastLetter(x);
                due.letter(x, l, ASK, m, order.get(i), NONE);
                asked.add(x.letter(l, 2));
                Crowds.deliverAll(x);
                due.is("it was answered", x.state(m, 8), NONE);
            }
            asked.sort(null);
            due.holds(m + " asked each other one once, " + asked, asked.equals(others));
        }
    }

    private static void othersAsk() {
        due.sentence(PART, "have others ask for them,");
        Roll x = crowd();
        x.cut(0, 4);
        int ask = turnTillItAsks(x, 0, 4);
        due.is("deliver(" + ask + ")", x.deliver(ask), NONE);
        due.is("it bids three and asks on", x.turn(0), 4);
        for (int l = ask + 1; l <= ask + 3; l++) {
            due.is("KIND of " + l, x.letter(l, 0), BID);
            due.is("ABOUT of " + l, x.letter(l, 3), 4);
        }
        Crowds.deliverAll(x);
        due.is("0 waits for 4 as BID for", x.state(0, 9), NONE);
        x.turn(0);
        due.is("0 has of 4", x.news(0, 4, 0), ALIVE);
    }

    private static void doubting() {
        due.sentence(PART, "doubt those that do not answer, take doubts back by greater numbers, and carry each other's news on"
                + " their letters;");
        Roll x = crowd();
        for (int m = 0; m < 4; m++) {
            x.cut(m, 4);
        }
        turnTillItAsks(x, 0, 4);
        Crowds.deliverAll(x);
        for (int t = 0; t < 2; t++) {
            due.is("0 has of 4", x.news(0, 4, 0), ALIVE);
            x.turn(0);
            Crowds.deliverAll(x);
        }
        due.news(x, 0, 4, DOUBTED, 1);
        due.is("none told 4", x.state(4, 1), 1);
        due.part("4 hears of it by another one, and takes it back");
        for (int m = 1; m < 4; m++) {
            x.heal(m, 4);
        }
        for (int m = 1; m < 4; m++) {
            Crowds.meet(x, m, 0);
            Crowds.meet(x, 4, m);
        }
        due.is("4 has a greater TERM", x.state(4, 1), 2);
        due.part("0 hears of that by another one, as the link to 4 is cut");
        x.deliver(x.join(4, 1));
        Crowds.meet(x, 0, 1);
        due.news(x, 0, 4, ALIVE, 2);
        due.is("the letter's sender", x.letter(x.news(0, 4, 4), 1), 1);
        waysAndActs(x);
    }

    private static void waysAndActs(Roll x) {
        due.sentence(PART, "each piece of news has a way by which it came, all acts can be played again.");
        for (int m = 0; m < CROWD; m++) {
            for (int of = 0; of < CROWD; of++) {
                int kind = x.news(m, of, 0);
                int term = x.news(m, of, 1);
                due.is("own word of " + m + " of " + of, x.way(m, of) == 0 ? 1 : 0, x.news(m, of, 4) == NONE ? 1 : 0);
                due.is("check(" + m + ", " + of + ", ..)", x.check(m, of, kind, term), 1);
            }
        }
        due.is("replay()", x.replay(), 1);
    }

    public static void main(String[] args) {
        asking();
        othersAsk();
        doubting();
        due.finish();
    }
}
