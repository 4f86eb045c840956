/** Crowds that many tests begin with, and the document's draws. */
final class Crowds {
    private Crowds() {
    }

    /** Members 0 .. n-1, member m with seed m + 1, that know nobody but themselves. */
    static CrowdRoll strangers(int n) {
        CrowdRoll x = new CrowdRoll();
        for (int m = 0; m < n; m++) {
            x.member(m, m + 1L);
        }
        return x;
    }

    /** As strangers, but each has joined by way of 0: one knows 0 and all lesser ones, 0 knows all. */
    static CrowdRoll joined(int n) {
        CrowdRoll x = strangers(n);
        for (int m = 1; m < n; m++) {
            x.deliver(x.join(m, 0));
            x.deliver(x.letters(0) - 1);
        }
        return x;
    }

    static long stir(long seed) {
        return seed * 6364136223846793005L + 1442695040888963407L;
    }

    static int drawn(long seed, int n) {
        return (int) ((seed >>> 33) % n);
    }

    /** Delivers all letters that are under way, and those that this sends, oldest first. */
    static int deliverAll(CrowdRoll x) {
        int calls = 0;
        for (int l = x.underWay(0); l != CrowdRoll.NONE && calls < 1200; l = x.underWay(0)) {
            x.deliver(l);
            calls++;
        }
        return calls;
    }
}
