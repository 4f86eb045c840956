import java.util.List;

/** "==== 4" of the document: which acts are refused, by what first, and that it changes nothing. */
public final class RefusalsTest {
    private static final Due due = new Due();
    private static final String PART = "==== 4";
    private static final int MISSING = CrowdRoll.MISSING;
    private static final int BEYOND = CrowdRoll.BEYOND;
    private static final int DOWN = CrowdRoll.DOWN;
    private static final int NO = CrowdRoll.NO;
    private static final int FULL = CrowdRoll.FULL;
    private static final String[] OF_LETTERS = {"deliver", "lose", "twice"};
    private static final String[] OF_MEMBERS = {"leave", "turn", "fall", "rise"};

    private static void beyond() {
        due.sentence(PART, "ACTS are refused by the first of these that holds: BEYOND: a member that is not 0 .. 63, a LETTER"
                + " that there was none of.");
        Roll x = Crowds.strangers(3);
        for (String name : OF_LETTERS) {
            due.is(name + "(0) before there is a letter", x.call(name, 0, 0, 0, 0), BEYOND);
        }
        x.join(0, 1);
        x.join(0, 1);
        for (String name : OF_LETTERS) {
            for (int l : new int[] {-1, 2, Integer.MIN_VALUE, Integer.MAX_VALUE}) {
                due.is(name + "(" + l + ")", x.call(name, l, 0, 0, 0), BEYOND);
            }
        }
        x.fall(2);
        for (int m : Crowds.OUTSIDE) {
            due.is("member", x.member(m, 1L), BEYOND);
            for (String name : OF_MEMBERS) {
                due.is(name + "(" + m + ")", x.call(name, m, 0, 0, 0), BEYOND);
            }
            due.is("before MISSING, join(9, m)", x.join(9, m), BEYOND);
            due.is("before MISSING, join(m, 9)", x.join(m, 9), BEYOND);
            due.is("before DOWN, join(2, m)", x.join(2, m), BEYOND);
            due.is("before NO, join(m, m)", x.join(m, m), BEYOND);
            due.is("before NO, cut(m, m)", x.cut(m, m), BEYOND);
            due.is("before NO, heal(m, m)", x.heal(m, m), BEYOND);
        }
    }

    private static void missing() {
        due.sentence(PART, "MISSING: a member that was not made (y of join, too); a letter that is not UNDER WAY; no news.");
        Roll x = Crowds.strangers(3);
        for (String name : OF_MEMBERS) {
            due.is(name + "(3)", x.call(name, 3, 0, 0, 0), MISSING);
            due.is(name + "(63)", x.call(name, 63, 0, 0, 0), MISSING);
        }
        due.is("join(3, 0)", x.join(3, 0), MISSING);
        due.is("join(0, 3)", x.join(0, 3), MISSING);
        due.is("before NO, join(3, 3)", x.join(3, 3), MISSING);
        x.fall(2);
        due.is("before DOWN, join(2, 3)", x.join(2, 3), MISSING);
        x.join(0, 1);
        x.deliver(x.join(0, 1));
        x.lose(0);
        for (String name : OF_LETTERS) {
            due.is(name + " of one that was lost", x.call(name, 0, 0, 0, 0), MISSING);
            due.is(name + " of one that was delivered", x.call(name, 1, 0, 0, 0), MISSING);
        }
        x.join(0, 2);
        x.deliver(3);
        for (String name : OF_LETTERS) {
            due.is(name + " of one that was lost by delivery", x.call(name, 3, 0, 0, 0), MISSING);
        }
        for (String name : new String[] {"news", "as", "way"}) {
            due.is(name + " without news", x.call(name, 0, 1, 1, 0), MISSING);
            due.is(name + " of one that was not made", x.call(name, 0, 9, 1, 0), MISSING);
            due.is(name + " without the member", x.call(name, 9, 9, 1, 0), MISSING);
        }
    }

    private static void down() {
        due.sentence(PART, "DOWN: a member that is not UP (where that is asked for).");
        Roll x = Crowds.strangers(4);
        x.join(1, 0);
        x.join(2, 0);
        x.fall(1);
        x.leave(2);
        for (int m = 1; m <= 2; m++) {
            due.is("join(m, 0)", x.join(m, 0), DOWN);
            due.is("before NO, join(m, m)", x.join(m, m), DOWN);
            due.is("leave(m)", x.leave(m), DOWN);
            due.is("turn(m)", x.turn(m), DOWN);
            due.is("fall(m)", x.fall(m), DOWN);
            due.is("next(m)", x.next(m), DOWN);
            due.is("not of y, join(0, m)", x.join(0, m), 1 + m);
            due.is("not of links, cut(0, m)", x.cut(0, m), 1);
            due.is("not of links, heal(0, m)", x.heal(0, m), 1);
        }
        due.is("not of a letter's sender, twice(0)", x.twice(0), 4);
        due.is("not of a letter's sender, deliver(0)", x.deliver(0), 1);
        due.is("not of a letter's sender, lose(1)", x.lose(1), 4);
        due.is("not of a letter's receiver, twice(2)", x.twice(2), 6);
        due.is("not of a letter's receiver, deliver(2)", x.deliver(2), CrowdRoll.NONE);
        due.is("not of a rise", x.rise(1), 2);
        due.is("not of a rise", x.rise(2), 2);
    }

    private static void no() {
        due.sentence(PART, "NO: not as told.");
        Roll x = Crowds.strangers(3);
        x.fall(1);
        x.leave(2);
        for (int m = 0; m <= 2; m++) {
            due.is("member(m)", x.member(m, 1L), NO);
            due.is("cut(m, m)", x.cut(m, m), NO);
            due.is("heal(m, m)", x.heal(m, m), NO);
        }
        due.is("rise(0)", x.rise(0), NO);
        due.is("join(0, 0)", x.join(0, 0), NO);
        due.is("back()", x.back(), NO);
        due.is("cut of two that were not made", x.cut(50, 50), NO);
    }

    /** The rest of FULL's sentence, of acts, can't be seen: 512 calls end long before 4000 acts. */
    private static void roomForLetters() {
        due.sentence(PART, "FULL: of the room for 1200 LETTERS, 20000 pieces on them, 4000 ACTS that were done, fewer than 4,"
                + " 200, 1 are left (asked of member, join, leave, turn, fall, rise, deliver, lose, twice, cut, heal).");
        Roll x = Rooms.withLetters(1196);
        due.is("letters", x.letters(0), 1196);
        due.is("4 are left: cut", x.cut(4, 5), 1);
        due.is("4 are left: member", x.member(50, 1L), 41);
        due.is("4 are left: fall", x.fall(1), 1);
        due.is("4 are left: lose", x.lose(5), x.letters(1));
        due.is("4 are left: turn", x.turn(39), 4);
        due.is("letters", x.letters(0), 1200);
        refusesAll(x, Rooms.OPEN_LETTER);
        x = Rooms.withLetters(1196);
        due.is("4 are left: twice", x.twice(Rooms.OPEN_LETTER), 1196);
        due.is("3 are left: twice", x.twice(Rooms.OPEN_LETTER), FULL);
        x = Rooms.withLetters(1193);
        x.fall(1);
        for (int l = 1193; l <= 1196; l++) {
            due.is("twice", x.twice(Rooms.OPEN_LETTER), l);
        }
        due.is("letters", x.letters(0), 1197);
        refusesAll(x, Rooms.OPEN_LETTER);
    }

    private static void roomForPieces() {
        due.sentence(PART, "fewer than 4, 200, 1 are left");
        Roll x = Rooms.withPieces(19800);
        due.is("pieces", x.letters(4), 19800);
        due.is("200 are left: fall", x.fall(1), 1);
        due.is("200 are left: join", x.join(2, 0), Crowds.lastLetter(x));
        due.is("pieces", x.letters(4), 19801);
        refusesAll(x, Rooms.LARGE_LETTER);
        x = Rooms.withPieces(19801);
        due.is("199 are left: twice", x.twice(1), FULL);
        x = Rooms.withPieces(19800);
        due.is("200 are left: leave", x.leave(0), 3);
        due.is("pieces", x.letters(4), 19800 + 3 * 63);
        due.is("turn", x.turn(5), FULL);
        due.is("replay()", x.replay(), 1);
    }

    /** Each act is refused for want of room, but only if nothing else speaks against it; member 1 is down. */
    private static void refusesAll(Roll x, int open) {
        List<Integer> before = glance(x);
        String[] acts = {"join", "leave", "turn", "fall", "cut", "heal"};
        for (String name : acts) {
            due.is(name, x.call(name, 0, 2, 0, 0), FULL);
        }
        due.is("member(63)", x.member(63, 1L), FULL);
        due.is("rise(1)", x.rise(1), FULL);
        for (String name : OF_LETTERS) {
            due.is(name, x.call(name, open, 0, 0, 0), FULL);
        }
        due.is("after BEYOND, turn(64)", x.turn(64), BEYOND);
        due.is("after MISSING, deliver(0)", x.deliver(0), MISSING);
        due.is("after DOWN, turn(1)", x.turn(1), DOWN);
        due.is("after NO, rise(0)", x.rise(0), NO);
        due.is("after NO, join(0, 0)", x.join(0, 0), NO);
        due.holds("nothing changes", glance(x).equals(before));
    }

    private static List<Integer> glance(Roll x) {
        return List.of(x.letters(0), x.letters(1), x.letters(4), x.status(0), x.state(0, 2), x.next(0));
    }

    /** An image that was made before has its room again. */
    private static void roomComesBack() {
        due.sentence(PART, "are left");
        Roll x = Crowds.hub(63, 1L);
        x.image();
        for (int pieces = 2077; pieces <= 19800; pieces += 63) {
            x.twice(Rooms.LARGE_LETTER);
        }
        due.is("turn(0)", x.turn(0), FULL);
        x.back();
        due.is("turn(0)", x.turn(0), 1);
    }

    private static Roll smallCrowd(boolean withRefusals) {
        Roll x = Crowds.joined(3);
        refusedCalls(x, withRefusals);
        x.turn(0);
        x.turn(1);
        refusedCalls(x, withRefusals);
        x.fall(2);
        x.way(0, 1);
        x.copy(0, 0, 1, 5);
        refusedCalls(x, withRefusals);
        x.turn(0);
        return x;
    }

    private static void refusedCalls(Roll x, boolean really) {
        if (!really) {
            return;
        }
        int[][] wrong = {{64, 0}, {-1, -1}, {0, 64}, {9, 0}, {0, 9}, {1, 1}};
        for (String name : new String[] {"join", "cut", "heal"}) {
            for (int[] pair : wrong) {
                boolean link = !name.equals("join") && (pair[0] == 9 || pair[1] == 9);
                due.holds(name + " is refused", link || x.call(name, pair[0], pair[1], 0, 0) < -1);
            }
        }
        for (String name : OF_MEMBERS) {
            due.holds(name + " is refused", x.call(name, 9, 0, 0, 0) < -1 && x.call(name, 64, 0, 0, 0) < -1);
        }
        for (String name : OF_LETTERS) {
            due.holds(name + " is refused", x.call(name, 0, 0, 0, 0) < -1 && x.call(name, 99, 0, 0, 0) < -1);
        }
        due.holds("member is refused", x.member(0, 5L) < -1 && x.member(64, 5L) < -1);
        due.holds("rise is refused", x.rise(0) < -1);
        due.holds("way is refused", x.way(0, 9) < -1 && x.way(64, 0) < -1);
        due.holds("copy is refused", x.copy(0, 0, 9, 0) < -1 && x.copy(0, 0, -1, 0) < -1 && x.copy(0, 0, 1, 16) < -1);
    }

    private static void nothingChanges() {
        due.sentence(PART, "A refused act changes nothing but again() and status.");
        Roll without = smallCrowd(false);
        Roll with = smallCrowd(true);
        due.is("again()", without.again(), CrowdRoll.NOTHING);
        due.holds("again()", with.again() != CrowdRoll.NOTHING);
        due.holds("all is the same", Crowds.tell(with, 3, 8).equals(Crowds.tell(without, 3, 8)));
        for (Roll x : List.of(without, with)) {
            due.is("the WAY", x.wayAt(0), 0);
            due.is("the TABLE", x.table(5), x.round(0, 0));
            due.is("the TABLE", x.table(0), CrowdRoll.NONE);
            due.is("replay()", x.replay(), 1);
            due.is("no image was made", x.back(), NO);
        }
    }

    public static void main(String[] args) {
        beyond();
        missing();
        down();
        no();
        roomForLetters();
        roomForPieces();
        roomComesBack();
        nothingChanges();
        due.finish();
    }
}
