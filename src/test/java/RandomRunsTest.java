import java.util.Collections;
import java.util.List;
import java.util.Random;

/** Promises 1 to 36 together: many runs of calls, each answer compared with PlainCrowd's. */
public final class RandomRunsTest {
    private static final String[] ACTS = {"member", "join", "leave", "turn", "fall", "rise", "deliver", "lose",
        "twice", "cut", "heal"};
    private static final String[] QUESTIONS = {"letters", "underWay", "letter", "carries", "state", "news", "as",
        "round", "next", "copy", "table", "agree", "apart", "count", "way", "wayAt", "forge", "check", "replay",
        "image", "back", "trace", "again", "status"};
    private static final int[] EDGES = {Integer.MIN_VALUE, Integer.MIN_VALUE + 1, -65, -64, -11, -10, -9, -2, -1, 0,
        1, 2, 3, 4, 5, 6, 7, 8, 11, 12, 15, 16, 17, 62, 63, 64, 65, 1199, 1200, Integer.MAX_VALUE - 1,
        Integer.MAX_VALUE};

    // One more question, of nine calls at most, then the traces and a replay.
    private static final int CALLS_AT_END = 22;

    private final Due due = new Due();
    private final Random random;
    private final Roll roll = new Roll();
    private final PlainCrowd plain = new PlainCrowd();
    private final int crowd;
    private final List<Integer> names;
    private boolean right = true;

    private RandomRunsTest(long seed) {
        random = new Random(seed);
        int[] sizes = {2, 3, 4, 5, 6, 8, 12, 20, 40};
        crowd = sizes[random.nextInt(sizes.length)];
        names = namesFor();
        due.part("random run " + seed);
    }

    /** Half of the crowds are 0 .. n-1, the others have numbers from all of 0 .. 63. */
    private List<Integer> namesFor() {
        List<Integer> all = Crowds.range(0, 63);
        if (random.nextBoolean()) {
            Collections.shuffle(all, random);
        }
        return all.subList(0, crowd);
    }

    private int call(String name, int a, int b, int c, int d, long seed) {
        int want = plain.call(name, a, b, c, d, seed);
        int got = roll.call(name, a, b, c, d, seed);
        if (got != want) {
            right = false;
            due.is(name + "(" + a + ", " + b + ", " + c + ", " + d + ", " + seed + ")", got, want);
        }
        return got;
    }

    private int call(String name, int a, int b) {
        return call(name, a, b, 0, 0, 0L);
    }

    private void gather() {
        for (int m = 0; m < crowd; m++) {
            call("member", names.get(m), 0, 0, 0, random.nextInt(4) == 0 ? random.nextInt(3) : random.nextLong());
        }
        for (int m = 1; m < crowd && roll.callsLeft() > 200; m++) {
            int first = call("join", names.get(m), names.get(random.nextInt(3) == 0 ? random.nextInt(m) : 0));
            call("deliver", first, 0);
            if (random.nextInt(10) != 0) {
                call("deliver", call("letters", 0, 0) - 1, 0);
            }
        }
    }

    private int someMember() {
        return random.nextInt(25) == 0 ? EDGES[random.nextInt(EDGES.length)] : names.get(random.nextInt(crowd));
    }

    private int someLetter() {
        int open = plain.call("letters", 1, 0, 0, 0, 0L);
        if (open > 0 && random.nextInt(20) != 0) {
            int k = random.nextInt(3) == 0 ? 0 : Math.max(0, open - 1 - random.nextInt(Math.min(open, 6)));
            return plain.call("underWay", k, 0, 0, 0, 0L);
        }
        return anyNumber(plain.call("letters", 0, 0, 0, 0, 0L));
    }

    private int anyNumber(int below) {
        return random.nextInt(8) == 0 || below < 1 ? EDGES[random.nextInt(EDGES.length)] : random.nextInt(below);
    }

    private void act(int quiet) {
        int dice = random.nextInt(100);
        if (dice < quiet) {
            call("deliver", someLetter(), 0);
        } else if (dice < 82) {
            call("turn", someMember(), 0);
        } else {
            String name = ACTS[random.nextInt(ACTS.length)];
            boolean letter = name.equals("deliver") || name.equals("lose") || name.equals("twice");
            call(name, letter ? someLetter() : someMember(), someMember(), 0, 0, random.nextLong());
        }
    }

    private void question() {
        String name = QUESTIONS[random.nextInt(QUESTIONS.length)];
        if (name.equals("back") && random.nextInt(3) != 0) {
            name = "way";
        }
        int sent = plain.call("letters", 0, 0, 0, 0, 0L);
        switch (name) {
            case "letter" -> call(name, anyNumber(sent), anyNumber(8));
            case "carries" -> call(name, anyNumber(sent), anyNumber(8), anyNumber(5), 0, 0L);
            case "state" -> call(name, someMember(), anyNumber(13));
            case "news" -> call(name, someMember(), someMember(), anyNumber(6), 0, 0L);
            case "as" -> call(name, someMember(), someMember(), anyNumber(6), 0, 0L);
            case "round" -> call(name, someMember(), anyNumber(crowd));
            case "copy" -> call(name, someMember(), anyNumber(3), anyNumber(crowd), anyNumber(16), 0L);
            case "count" -> call(name, someMember(), anyNumber(5));
            case "way" -> followWay();
            case "wayAt", "forge" -> call(name, anyNumber(4), anyNumber(sent));
            case "check" -> call(name, someMember(), someMember(), anyNumber(5), 1 + random.nextInt(3), 0L);
            case "status" -> call(name, random.nextInt(13) - 11, 0);
            case "underWay" -> call(name, anyNumber(20), 0);
            default -> call(name, anyNumber(13), 0);
        }
    }

    /** Tells a way, checks it, forges it and checks it again. */
    private void followWay() {
        int m = someMember();
        int x = someMember();
        int n = call("way", m, x);
        if (n < 0) {
            return;
        }
        int kind = call("news", m, x, 0, 0, 0L);
        int term = call("news", m, x, 1, 0, 0L);
        call("check", m, x, kind, term, 0L);
        call("check", m, x, kind == 4 ? 1 : kind + 1, term, 0L);
        if (n > 0) {
            int at = random.nextInt(n);
            call("wayAt", at, 0);
            call("forge", at, anyNumber(plain.call("letters", 0, 0, 0, 0, 0L)));
            call("wayAt", at, 0);
            call("check", m, x, kind, term, 0L);
        }
    }

    private void go() {
        if (random.nextInt(12) != 0) {
            gather();
        }
        int quiet = 20 + random.nextInt(60);
        int share = 30 + random.nextInt(65);
        while (roll.callsLeft() > CALLS_AT_END && right) {
            if (random.nextInt(100) < share) {
                act(quiet);
            } else {
                question();
            }
        }
        for (int t = 0; t <= 11; t++) {
            call("trace", t, 0);
        }
        call("replay", 0, 0);
    }

    public static void main(String[] args) {
        int runs = args.length > 0 ? Integer.parseInt(args[0]) : 1500;
        boolean right = true;
        for (long seed = 1; seed <= runs && right; seed++) {
            RandomRunsTest run = new RandomRunsTest(seed);
            run.go();
            right = run.right;
        }
        System.out.println(right ? "all answers are as due" : "a random run went wrong");
        if (!right) {
            System.exit(1);
        }
    }
}
