import java.math.BigInteger;
import java.util.ArrayList;
import java.util.Collections;
import java.util.List;

/** The document's draws, with numbers that do not wrap unless they are told to. */
final class Draws {
    private static final BigInteger WRAP = BigInteger.ONE.shiftLeft(64);
    private static final BigInteger FACTOR = new BigInteger("6364136223846793005");
    private static final BigInteger STEP = new BigInteger("1442695040888963407");

    private BigInteger seed;

    Draws(long seed) {
        this.seed = BigInteger.valueOf(seed).mod(WRAP);
    }

    /** A draw that is only tried: this one stays where it is. */
    Draws copy() {
        return new Draws(seed.longValue());
    }

    int draw(int n) {
        seed = seed.multiply(FACTOR).add(STEP).mod(WRAP);
        return seed.shiftRight(33).mod(BigInteger.valueOf(n)).intValue();
    }

    /** A round that is made of a row. */
    List<Integer> round(List<Integer> row) {
        List<Integer> round = new ArrayList<>(row);
        for (int i = round.size() - 1; i >= 1; i--) {
            Collections.swap(round, i, draw(i + 1));
        }
        return round;
    }

    /** Three of a row, or fewer: one is drawn and taken out, again. */
    List<Integer> three(List<Integer> row) {
        List<Integer> left = new ArrayList<>(row);
        List<Integer> taken = new ArrayList<>();
        while (taken.size() < 3 && !left.isEmpty()) {
            taken.add(left.remove(draw(left.size())));
        }
        return taken;
    }
}
