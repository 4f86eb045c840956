import java.util.List;

/** Counts and prints the answers that are not the ones that are due. */
final class Due {
    private int wrong = 0;
    private int asked = 0;
    private String part = "";

    void part(String name) {
        part = name;
    }

    /** What follows tests this sentence of the document; QuotesTest looks whether it stands there. */
    void sentence(String heading, String quote) {
        part = heading + ", \"" + quote + "\"";
    }

    void is(String call, long got, long want) {
        asked++;
        if (got != want) {
            wrong++;
            System.out.println(part + ": " + call + " answered " + got + ", due is " + want);
        }
    }

    void holds(String what, boolean so) {
        is(what, so ? 1 : 0, 1);
    }

    /** Of a letter: KIND, sender, receiver, ABOUT; more that is wanted goes on as letter() numbers it. */
    void letter(Roll x, int l, int... want) {
        for (int what = 0; what < want.length; what++) {
            is("letter(" + l + ", " + what + ")", x.letter(l, what), want[what]);
        }
    }

    /** Of a piece of news on a roll: KIND, TERM, TOLD, TURN, letter, as far as they are wanted. */
    void news(Roll x, int m, int of, int... want) {
        for (int what = 0; what < want.length; what++) {
            is("news(" + m + ", " + of + ", " + what + ")", x.news(m, of, what), want[what]);
        }
    }

    /** Whom the pieces on a letter are of, all of them and in their order. */
    void pieces(Roll x, int l, List<Integer> whom) {
        is("letter(" + l + ", 4)", x.letter(l, 4), whom.size());
        for (int i = 0; i < whom.size(); i++) {
            is("carries(" + l + ", " + i + ", 0)", x.carries(l, i, 0), whom.get(i));
        }
    }

    /** Of a piece on a letter: of whom, KIND, TERM, the letter that it keeps. */
    void piece(Roll x, int l, int i, int... want) {
        for (int what = 0; what < want.length; what++) {
            is("carries(" + l + ", " + i + ", " + what + ")", x.carries(l, i, what), want[what]);
        }
    }

    /** The whole of a member's round. */
    void round(Roll x, int m, List<Integer> want) {
        is("state(" + m + ", 10)", x.state(m, 10), want.size());
        for (int i = 0; i < want.size(); i++) {
            is("round(" + m + ", " + i + ")", x.round(m, i), want.get(i));
        }
    }

    void finish() {
        if (wrong != 0) {
            System.out.println(wrong + " of " + asked + " answers are not as due");
            System.exit(1);
        }
        System.out.println("all " + asked + " answers are as due");
    }
}
