/** Crowds that have used up their room, within the calls that an object is promised for. */
final class Rooms {
    /** Of a crowd withLetters: a FULL that is under way to member 2. */
    static final int OPEN_LETTER = 3;
    /** Of a crowd withPieces: a FULL of 63 pieces that is under way to member 62. */
    static final int LARGE_LETTER = 123;

    private Rooms() {
    }

    /** Just so many letters: members 30 .. 39 know many and ask them, and nobody answers. */
    static Roll withLetters(int n) {
        Roll x = Crowds.hub(40, 1L);
        for (int m = 30; m < 40; m++) {
            x.deliver(2 * m - 1);
        }
        int sent = 78;
        for (int i = 0; sent + 4 <= n; i++) {
            sent += x.turn(30 + i % 10);
        }
        for (; sent < n; sent++) {
            x.twice(OPEN_LETTER);
        }
        return x;
    }

    /** Just so many pieces, by copies of FULLs; 0 knows all, the others know nobody, 63 was not made. */
    static Roll withPieces(int n) {
        Roll x = Crowds.hub(63, 1L);
        int left = n - 62 - 2015;
        for (; left >= 65; left -= 63) {
            x.twice(LARGE_LETTER);
        }
        if (left > 63) {
            x.twice(1);
            left -= 2;
        }
        x.twice(2 * left - 3);
        return x;
    }
}
