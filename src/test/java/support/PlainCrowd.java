import java.util.ArrayList;
import java.util.HashSet;
import java.util.List;
import java.util.Map;
import java.util.Set;
import java.util.TreeMap;

/**
 * The document told a second time, with the Java library and without a thought for room:
 * CrowdRoll is compared with it. An image is kept as the list of its acts, and going back does them anew.
 */
final class PlainCrowd {
    private record Piece(int of, int kind, int term, int via) { }

    private record Act(String name, int a, int b, long seed) { }

    private static final class News {
        final int kind;
        final int term;
        final int turn;
        final int letter;
        int told = 0;

        News(int kind, int term, int turn, int letter) {
            this.kind = kind;
            this.term = term;
            this.turn = turn;
            this.letter = letter;
        }

        boolean living() {
            return kind <= 2;
        }
    }

    private static final class Letter {
        int kind;
        int from;
        int to;
        int about;
        int copyOf = -1;
        int fate = 0;
        List<Piece> pieces = new ArrayList<>();

        Piece of(int x) {
            for (Piece p : pieces) {
                if (p.of() == x) {
                    return p;
                }
            }
            return null;
        }
    }

    private static final class One {
        final int number;
        int standing = 0;
        long seed;
        int term = 1;
        int turns = 0;
        int asked = -1;
        int bid = -1;
        TreeMap<Integer, News> roll = new TreeMap<>();
        List<Integer> round = new ArrayList<>();
        int stands = 0;

        One(int number, long seed) {
            this.number = number;
            this.seed = seed;
            say(number, 1, 1);
        }

        void say(int x, int kind, int term) {
            roll.put(x, new News(kind, term, turns, -1));
        }

        int draw(int n) {
            seed = seed * 6364136223846793005L + 1442695040888963407L;
            return (int) ((seed >>> 33) % n);
        }

        List<Integer> living(int but) {
            List<Integer> row = new ArrayList<>();
            for (Map.Entry<Integer, News> e : roll.entrySet()) {
                if (e.getKey() != number && e.getKey() != but && e.getValue().living()) {
                    row.add(e.getKey());
                }
            }
            return row;
        }

        void settle() {
            asked = -1;
            bid = -1;
            round = new ArrayList<>();
            stands = 0;
        }
    }

    private TreeMap<Integer, One> crowd = new TreeMap<>();
    private List<Letter> post = new ArrayList<>();
    private Set<Integer> cuts = new HashSet<>();
    private List<Act> acts = new ArrayList<>();
    private int[] traces = new int[12];
    private List<Act> kept = null;
    private final int[] refusals = new int[11];
    private int latest = -7;
    private final int[] table = new int[16];
    private List<Integer> way = new ArrayList<>();

    PlainCrowd() {
        java.util.Arrays.fill(table, -1);
    }

    /** Every call of the face by its name; arguments that a call has not are 0. */
    int call(String name, int a, int b, int c, int d, long seed) {
        switch (name) {
            case "member", "join", "leave", "turn", "fall", "rise", "deliver", "lose", "twice", "cut", "heal" -> {
                Act act = new Act(name, a, b, seed);
                int why = why(act);
                if (why != 0) {
                    return refuse(why);
                }
                return act(act);
            }
            case "again" -> {
                int was = latest;
                latest = -7;
                return was;
            }
            case "wayAt" -> {
                return a < 0 || a >= way.size() ? refuse(-3) : way.get(a);
            }
            default -> {
                int answer = ask(name, a, b, c, d);
                return answer < -1 ? refuse(answer) : answer;
            }
        }
    }

    private int refuse(int why) {
        refusals[-why]++;
        latest = why;
        return why;
    }

    private static boolean out(int m) {
        return m < 0 || m > 63;
    }

    private int why(Act t) {
        boolean ofLetter = List.of("deliver", "lose", "twice").contains(t.name());
        boolean ofTwo = List.of("join", "cut", "heal").contains(t.name());
        boolean ofLink = List.of("cut", "heal").contains(t.name());
        boolean ofUp = List.of("join", "leave", "turn", "fall").contains(t.name());
        if (ofLetter ? t.a() < 0 || t.a() >= post.size() : out(t.a()) || ofTwo && out(t.b())) {
            return -3;
        }
        if (ofLetter && post.get(t.a()).fate != 0) {
            return -2;
        }
        if (!ofLetter && !ofLink && !t.name().equals("member")
                && (!crowd.containsKey(t.a()) || ofTwo && !crowd.containsKey(t.b()))) {
            return -2;
        }
        if (ofUp && crowd.get(t.a()).standing != 0) {
            return -8;
        }
        if (ofTwo && t.a() == t.b() || t.name().equals("member") && crowd.containsKey(t.a())
                || t.name().equals("rise") && crowd.get(t.a()).standing == 0) {
            return -9;
        }
        return post.size() > 1196 || pieces() > 19800 || acts.size() >= 4000 ? -10 : 0;
    }

    private int pieces() {
        return post.stream().mapToInt(l -> l.pieces.size()).sum();
    }

    private int fates(int fate) {
        return (int) post.stream().filter(l -> l.fate == fate).count();
    }

    private int act(Act t) {
        acts.add(t);
        One m = crowd.get(t.a());
        switch (t.name()) {
            case "member" -> {
                crowd.put(t.a(), new One(t.a(), t.seed()));
                return crowd.size();
            }
            case "join" -> {
                return send(m, 5, t.b(), -1);
            }
            case "leave" -> {
                m.say(m.number, 4, m.term);
                m.standing = 2;
                m.settle();
                return sendThree(m, 6, -1);
            }
            case "turn" -> {
                return turn(m);
            }
            case "fall" -> {
                m.standing = 1;
                m.roll.clear();
                m.say(m.number, 1, m.term);
                m.settle();
                return m.term;
            }
            case "rise" -> {
                m.standing = 0;
                m.term++;
                m.say(m.number, 1, m.term);
                return m.term;
            }
            case "deliver" -> {
                return deliver(t.a());
            }
            case "lose" -> {
                post.get(t.a()).fate = 2;
                return fates(0);
            }
            case "twice" -> {
                return twice(t.a());
            }
            case "cut" -> {
                return cuts.add(link(t.a(), t.b())) ? 1 : 0;
            }
            default -> {
                return cuts.remove(link(t.a(), t.b())) ? 1 : 0;
            }
        }
    }

    private static int link(int a, int b) {
        return Math.min(a, b) * 100 + Math.max(a, b);
    }

    private int send(One from, int kind, int to, int about) {
        Letter l = new Letter();
        l.kind = kind;
        l.from = from.number;
        l.to = to;
        l.about = about;
        List<Integer> whom = new ArrayList<>(from.roll.keySet());
        if (kind != 6) {
            whom.removeIf(x -> from.roll.get(x).told >= 8);
            whom.sort((x, y) -> from.roll.get(x).told != from.roll.get(y).told
                    ? from.roll.get(x).told - from.roll.get(y).told : x - y);
            whom = whom.subList(0, Math.min(6, whom.size()));
        }
        for (int x : whom) {
            News n = from.roll.get(x);
            l.pieces.add(new Piece(x, n.kind, n.term, n.letter));
            traces[3 + n.kind]++;
            n.told += kind == 6 ? 0 : 1;
        }
        post.add(l);
        return post.size() - 1;
    }

    private int sendThree(One m, int kind, int about) {
        List<Integer> row = m.living(about);
        int sent = 0;
        for (; sent < 3 && !row.isEmpty(); sent++) {
            send(m, kind, row.remove(m.draw(row.size())), about);
        }
        return sent;
    }

    private int turn(One m) {
        m.turns++;
        for (int x = 0; x < 64; x++) {
            News n = m.roll.get(x);
            if (n != null && n.kind == 2) {
                traces[8]++;
                if (m.turns >= n.turn + 5) {
                    traces[9]++;
                    m.say(x, 3, n.term);
                }
            }
        }
        if (m.bid != -1) {
            News n = m.roll.get(m.bid);
            if (n != null && n.kind == 1) {
                m.say(m.bid, 2, n.term);
            }
            m.bid = -1;
        }
        int sent = 0;
        if (m.asked != -1) {
            m.bid = m.asked;
            m.asked = -1;
            sent = sendThree(m, 2, m.bid);
        }
        int x = findNext(m);
        if (x == -1) {
            traces[11]++;
            m.round = m.living(-1);
            m.stands = 0;
            shuffle(m, m.round);
            x = findNext(m);
        }
        if (x == -1) {
            return sent;
        }
        m.stands = x + 1;
        send(m, 1, m.round.get(x), -1);
        m.asked = m.round.get(x);
        return sent + 1;
    }

    private static int findNext(One m) {
        for (int i = m.stands; i < m.round.size(); i++) {
            if (m.roll.get(m.round.get(i)).living()) {
                return i;
            }
        }
        return -1;
    }

    private static void shuffle(One m, List<Integer> row) {
        for (int i = row.size() - 1; i >= 1; i--) {
            java.util.Collections.swap(row, i, m.draw(i + 1));
        }
    }

    private int deliver(int number) {
        Letter l = post.get(number);
        One to = crowd.get(l.to);
        if (to.standing != 0 || cuts.contains(link(l.from, l.to))) {
            l.fate = 2;
            return -1;
        }
        l.fate = 1;
        for (Piece p : l.pieces) {
            traces[p.kind() - 1]++;
            take(to, p, number);
        }
        int before = post.size();
        if (l.kind == 1) {
            send(to, 3, l.from, l.about);
        } else if (l.kind == 2) {
            send(to, 1, l.about, l.from);
        } else if (l.kind == 3 && l.about != -1) {
            send(to, 4, l.about, l.from);
        } else if (l.kind == 5) {
            send(to, 6, l.from, -1);
        } else if (l.kind != 6) {
            int x = l.kind == 3 ? l.from : l.about;
            to.asked = to.asked == x ? -1 : to.asked;
            to.bid = to.bid == x ? -1 : to.bid;
        }
        return post.size() - before;
    }

    private void take(One to, Piece p, int number) {
        if (p.of() == to.number) {
            if (p.kind() != 1 && p.term() >= to.term) {
                traces[10]++;
                to.term = p.term() + 1;
                to.say(to.number, 1, to.term);
            }
            return;
        }
        News has = to.roll.get(p.of());
        if (has == null || p.term() > has.term || p.term() == has.term && p.kind() > has.kind) {
            to.roll.put(p.of(), new News(p.kind(), p.term(), to.turns, number));
        }
    }

    private int twice(int number) {
        Letter was = post.get(number);
        Letter l = new Letter();
        l.kind = was.kind;
        l.from = was.from;
        l.to = was.to;
        l.about = was.about;
        l.copyOf = number;
        l.pieces = new ArrayList<>(was.pieces);
        post.add(l);
        return post.size() - 1;
    }

    private int ask(String name, int a, int b, int c, int d) {
        switch (name) {
            case "letters" -> {
                return switch (a) {
                    case 0 -> post.size();
                    case 1 -> fates(0);
                    case 2 -> fates(1);
                    case 3 -> fates(2);
                    case 4 -> pieces();
                    default -> -9;
                };
            }
            case "underWay" -> {
                if (a < 0) {
                    return -3;
                }
                List<Integer> open = new ArrayList<>();
                for (int l = 0; l < post.size(); l++) {
                    if (post.get(l).fate == 0) {
                        open.add(l);
                    }
                }
                return a < open.size() ? open.get(a) : -1;
            }
            case "letter" -> {
                if (a < 0 || a >= post.size()) {
                    return -3;
                }
                Letter l = post.get(a);
                return b < 0 || b > 6 ? -9
                        : new int[] {l.kind, l.from, l.to, l.about, l.pieces.size(), l.fate, l.copyOf}[b];
            }
            case "carries" -> {
                if (a < 0 || a >= post.size() || b < 0 || b >= post.get(a).pieces.size()) {
                    return -3;
                }
                Piece p = post.get(a).pieces.get(b);
                return c < 0 || c > 3 ? -9 : new int[] {p.of(), p.kind(), p.term(), p.via()}[c];
            }
            case "table" -> {
                return a < 0 || a > 15 ? -3 : table[a];
            }
            case "agree" -> {
                return apart()[0] == -1 ? 1 : 0;
            }
            case "apart" -> {
                return a < 0 || a > 2 ? -9 : apart()[a];
            }
            case "count" -> {
                return count(a, b);
            }
            case "forge" -> {
                if (a < 0 || a >= way.size()) {
                    return -3;
                }
                way.set(a, b);
                return 1;
            }
            case "replay" -> {
                return 1;
            }
            case "image" -> {
                kept = new ArrayList<>(acts);
                return kept.size();
            }
            case "back" -> {
                return back();
            }
            case "trace" -> {
                return a < 0 || a > 11 ? -9 : traces[a];
            }
            case "status" -> {
                return a == 0 ? acts.size() : a <= -2 && a >= -10 ? refusals[-a] : -9;
            }
            default -> {
                return askMember(name, a, b, c, d);
            }
        }
    }

    private int back() {
        if (kept == null) {
            return -9;
        }
        crowd = new TreeMap<>();
        post = new ArrayList<>();
        cuts = new HashSet<>();
        acts = new ArrayList<>();
        traces = new int[12];
        for (Act t : kept) {
            act(t);
        }
        return kept.size();
    }

    private int[] apart() {
        for (One one : crowd.values()) {
            for (One other : crowd.values()) {
                for (int x = 0; x < 64 && one.number < other.number && one.standing + other.standing == 0; x++) {
                    News n = one.roll.get(x);
                    News o = other.roll.get(x);
                    if (n == null ? o != null : o == null || n.kind != o.kind || n.term != o.term) {
                        return new int[] {one.number, other.number, x};
                    }
                }
            }
        }
        return new int[] {-1, -1, -1};
    }

    private int count(int x, int kind) {
        if (out(x)) {
            return -3;
        }
        if (kind < 0 || kind > 4) {
            return -9;
        }
        return (int) crowd.values().stream().filter(m -> m.standing == 0 && m.number != x
                && (m.roll.containsKey(x) ? m.roll.get(x).kind : 0) == kind).count();
    }

    private int askMember(String name, int m, int b, int c, int d) {
        boolean ofTwo = List.of("news", "as", "way", "check").contains(name);
        if (out(m) || ofTwo && out(b)) {
            return -3;
        }
        One one = crowd.get(m);
        if (one == null || ofTwo && !name.equals("check") && !one.roll.containsKey(b)) {
            return -2;
        }
        News n = ofTwo ? one.roll.get(b) : null;
        switch (name) {
            case "state" -> {
                return state(one, b);
            }
            case "news" -> {
                return c < 0 || c > 4 ? -9 : new int[] {n.kind, n.term, n.told, n.turn, n.letter}[c];
            }
            case "as" -> {
                return c < 1 || c > 4 ? -9 : n.kind < c ? -5 : n.term;
            }
            case "round" -> {
                return b < 0 || b >= one.round.size() ? -3 : one.round.get(b);
            }
            case "next" -> {
                return next(one);
            }
            case "copy" -> {
                if (c < 0) {
                    return -4;
                }
                if (b < 0 || d < 0 || (long) b + c > one.round.size() || (long) d + c > 16) {
                    return -6;
                }
                for (int i = 0; i < c; i++) {
                    table[d + i] = one.round.get(b + i);
                }
                return c;
            }
            case "way" -> {
                way = new ArrayList<>();
                for (int l = n.letter; l != -1; l = post.get(l).of(b).via()) {
                    way.add(l);
                }
                return way.size();
            }
            case "check" -> {
                return check(one, b, c, d) ? 1 : 0;
            }
            default -> throw new IllegalArgumentException(name);
        }
    }

    private static int state(One one, int what) {
        if (what < 0 || what > 11) {
            return -9;
        }
        int[] kinds = new int[5];
        one.roll.values().forEach(n -> kinds[n.kind]++);
        return new int[] {one.standing, one.term, one.turns, one.roll.size(), kinds[1], kinds[2], kinds[3],
            kinds[4], one.asked, one.bid, one.round.size(), one.stands}[what];
    }

    private static int next(One one) {
        if (one.standing != 0) {
            return -8;
        }
        int at = findNext(one);
        if (at != -1) {
            return one.round.get(at);
        }
        long seed = one.seed;
        List<Integer> row = one.living(-1);
        shuffle(one, row);
        one.seed = seed;
        return row.isEmpty() ? -1 : row.get(0);
    }

    private boolean check(One one, int x, int kind, int term) {
        if (way.isEmpty()) {
            News n = one.roll.get(x);
            return n != null && n.kind == kind && n.term == term && n.letter == -1;
        }
        for (int i = 0; i < way.size(); i++) {
            int number = way.get(i);
            if (number < 0 || number >= post.size() || post.get(number).fate != 1) {
                return false;
            }
            Letter l = post.get(number);
            Piece p = l.of(x);
            boolean last = i == way.size() - 1;
            int due = i == 0 ? one.number : post.get(way.get(i - 1)).from;
            if (l.to != due || p == null || p.kind() != kind || p.term() != term
                    || p.via() != (last ? -1 : way.get(i + 1))) {
                return false;
            }
        }
        return true;
    }
}
