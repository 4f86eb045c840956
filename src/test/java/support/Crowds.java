import java.util.ArrayList;
import java.util.List;

/** Crowds that many tests begin with. */
final class Crowds {
    /** Numbers that no member bears. */
    static final int[] OUTSIDE = {-1, 64, Integer.MIN_VALUE, Integer.MAX_VALUE};

    private Crowds() {
    }

    /** Members 0 .. n-1, member m with seed m + 1, that know nobody but themselves. */
    static Roll strangers(int n) {
        Roll x = new Roll();
        for (int m = 0; m < n; m++) {
            x.member(m, m + 1L);
        }
        return x;
    }

    /** Member 0 has this seed and knows all; the others know nobody: a FULL to m, letter 2m - 1, is under way. */
    static Roll hub(int n, long seed) {
        Roll x = new Roll();
        x.member(0, seed);
        for (int m = 1; m < n; m++) {
            x.member(m, m + 1L);
            x.deliver(x.join(m, 0));
        }
        return x;
    }

    /** As a hub, but each FULL was delivered at once: one knows 0 and all lesser ones, 0 knows all. */
    static Roll joined(int n) {
        Roll x = strangers(n);
        for (int m = 1; m < n; m++) {
            meet(x, m, 0);
        }
        return x;
    }

    /** 0 knows all, the others know 0 alone: a few at most, as news is told 8 times and no more. */
    static Roll star(int n) {
        Roll x = strangers(n);
        for (int m = 1; m < n; m++) {
            x.deliver(x.join(0, m));
        }
        for (int m = 1; m < n; m++) {
            x.deliver(2 * m - 1);
        }
        return x;
    }

    /** One of a star leaves, and 0 hears of it. */
    static void leaveStar(Roll x, int m) {
        x.leave(m);
        x.deliver(lastLetter(x));
    }

    /** One joins another and hears its whole roll; answers the number of the FULL that told it. */
    static int meet(Roll x, int one, int other) {
        int join = x.join(one, other);
        x.deliver(join);
        x.deliver(join + 1);
        return join + 1;
    }

    static void turns(Roll x, int m, int n) {
        for (int i = 0; i < n; i++) {
            x.turn(m);
        }
    }

    /** The numbers from .. to, both with it. */
    static List<Integer> range(int from, int to) {
        List<Integer> row = new ArrayList<>();
        for (int m = from; m <= to; m++) {
            row.add(m);
        }
        return row;
    }

    /** A row without some of its numbers. */
    static List<Integer> without(List<Integer> row, Integer... some) {
        List<Integer> rest = new ArrayList<>(row);
        rest.removeAll(List.of(some));
        return rest;
    }

    /** The number of the letter that was sent last. */
    static int lastLetter(Roll x) {
        return x.letters(0) - 1;
    }

    /** Delivers all letters that are under way, and those that this sends, oldest first. */
    static void deliverAll(Roll x) {
        for (int l = x.underWay(0); l != CrowdRoll.NONE && x.callsLeft() > 1; l = x.underWay(0)) {
            x.deliver(l);
        }
    }

    /** All that the calls tell of a small crowd 0 .. n-1 and its first letters. */
    static List<Integer> tell(Roll x, int n, int letters) {
        List<Integer> all = new ArrayList<>();
        for (int what = 0; what <= 4; what++) {
            all.add(x.letters(what));
        }
        for (int what = 0; what <= 11; what++) {
            all.add(x.trace(what));
        }
        all.add(x.status(0));
        for (int m = 0; m < n; m++) {
            tellMember(x, m, n, all);
        }
        for (int l = 0; l < letters; l++) {
            for (int what = 0; what <= 6; what++) {
                all.add(x.letter(l, what));
            }
            for (int i = 0; i < n; i++) {
                all.add(x.carries(l, i, 2));
            }
        }
        return all;
    }

    private static void tellMember(Roll x, int m, int n, List<Integer> all) {
        all.add(x.next(m));
        for (int what = 0; what <= 11; what++) {
            all.add(x.state(m, what));
        }
        for (int of = 0; of < n; of++) {
            all.add(x.round(m, of));
            for (int what = 0; what <= 4; what++) {
                all.add(x.news(m, of, what));
            }
        }
    }
}
