import java.util.Arrays;

/** A roll of the living: a crowd whose members ask, doubt, refute and carry each other's news. */
public final class CrowdRoll {
    public static final int NONE = -1;
    public static final int MISSING = -2;
    public static final int BEYOND = -3;
    public static final int BELOW = -4;
    public static final int KIND = -5;
    public static final int COPY = -6;
    public static final int NOTHING = -7;
    public static final int DOWN = -8;
    public static final int NO = -9;
    public static final int FULL = -10;

    private static final int MEMBERS = 64;
    private static final int TABLE_SIZE = 16;
    private static final int TRACES = 12;

    // Kinds of news; 0 is for no news, so that any piece beats none by its number.
    private static final int NO_NEWS = 0;
    private static final int ALIVE = 1;
    private static final int DOUBTED = 2;
    private static final int GONE = 3;
    private static final int LEFT = 4;

    // How a member stands, as state() tells it.
    private static final int UP = 0;
    private static final int FALLEN = 1;
    private static final int AWAY = 2;

    // Kinds of letters.
    private static final int ASK = 1;
    private static final int BID = 2;
    private static final int ANSWER = 3;
    private static final int PASSED = 4;
    private static final int JOIN = 5;
    private static final int WHOLE_ROLL = 6;

    // What became of a letter, as letter() tells it.
    private static final int UNDER_WAY = 0;
    private static final int DELIVERED = 1;
    private static final int LOST = 2;

    // Columns of a letter's row; the first seven are numbered as letter() numbers them.
    private static final int LETTER_KIND = 0;
    private static final int LETTER_FROM = 1;
    private static final int LETTER_TO = 2;
    private static final int LETTER_ABOUT = 3;
    private static final int LETTER_PIECES = 4;
    private static final int LETTER_FATE = 5;
    private static final int LETTER_COPY_OF = 6;
    private static final int LETTER_START = 7;
    private static final int LETTER_COLUMNS = 8;

    // Columns of a piece's row, numbered as carries() numbers them.
    private static final int PIECE_OF = 0;
    private static final int PIECE_KIND = 1;
    private static final int PIECE_TERM = 2;
    private static final int PIECE_BROUGHT = 3;
    private static final int PIECE_COLUMNS = 4;

    // Columns of an act's row; a seed is kept as two ints.
    private static final int ACT_NAME = 0;
    private static final int ACT_FIRST = 1;
    private static final int ACT_SECOND = 2;
    private static final int ACT_SEED_HIGH = 3;
    private static final int ACT_SEED_LOW = 4;
    private static final int ACT_COLUMNS = 5;

    private static final int DO_MEMBER = 1;
    private static final int DO_JOIN = 2;
    private static final int DO_LEAVE = 3;
    private static final int DO_TURN = 4;
    private static final int DO_FALL = 5;
    private static final int DO_RISE = 6;
    private static final int DO_DELIVER = 7;
    private static final int DO_LOSE = 8;
    private static final int DO_TWICE = 9;
    private static final int DO_CUT = 10;
    private static final int DO_HEAL = 11;

    // The room of the document, and what must be left of it before an act.
    private static final int MOST_LETTERS = 1200;
    private static final int MOST_PIECES = 20000;
    private static final int MOST_ACTS = 4000;
    private static final int LETTERS_OF_ACT = 4;
    private static final int PIECES_OF_ACT = 200;

    private static final int MOST_TOLD = 8;
    private static final int MOST_CARRIED = 6;
    private static final int MOST_DRAWN = 3;
    private static final int DOUBT_AGE = 5;

    // Numbers of trace(); the kinds of news are counted on from the first two.
    private static final int TRACE_TAKEN = 0;
    private static final int TRACE_PUT = 4;
    private static final int TRACE_DOUBTS = 8;
    private static final int TRACE_GONE = 9;
    private static final int TRACE_REFUTED = 10;
    private static final int TRACE_ROUNDS = 11;

    private final World world;
    private final Refusals refusals;
    private final Way lastWay;
    private final int[] numbers;
    private final int[] spareRow;
    // Made at their first use: most objects never need them, and room is scarce.
    private World kept;
    private World beside;

    public CrowdRoll() {
        world = new World();
        refusals = new Refusals();
        lastWay = new Way();
        numbers = new int[TABLE_SIZE];
        Arrays.fill(numbers, NONE);
        spareRow = new int[MEMBERS];
        kept = null;
        beside = null;
    }

    // ---- acts

    public int member(int m, long seed) {
        return settled(world.perform(DO_MEMBER, m, 0, seed));
    }

    public int join(int m, int y) {
        return settled(world.perform(DO_JOIN, m, y, 0L));
    }

    public int leave(int m) {
        return settled(world.perform(DO_LEAVE, m, 0, 0L));
    }

    public int turn(int m) {
        return settled(world.perform(DO_TURN, m, 0, 0L));
    }

    public int fall(int m) {
        return settled(world.perform(DO_FALL, m, 0, 0L));
    }

    public int rise(int m) {
        return settled(world.perform(DO_RISE, m, 0, 0L));
    }

    public int deliver(int letter) {
        return settled(world.perform(DO_DELIVER, letter, 0, 0L));
    }

    public int lose(int letter) {
        return settled(world.perform(DO_LOSE, letter, 0, 0L));
    }

    public int twice(int letter) {
        return settled(world.perform(DO_TWICE, letter, 0, 0L));
    }

    public int cut(int a, int b) {
        return settled(world.perform(DO_CUT, a, b, 0L));
    }

    public int heal(int a, int b) {
        return settled(world.perform(DO_HEAL, a, b, 0L));
    }

    // ---- letters

    public int letters(int what) {
        Books books = world.books;
        switch (what) {
            case 0: return books.sent();
            case 1: return books.stillUnderWay();
            case 2: return books.delivered;
            case 3: return books.lost;
            case 4: return books.pieces.size;
            default: return refused(NO);
        }
    }

    public int underWay(int k) {
        if (k < 0) {
            return refused(BEYOND);
        }
        return world.books.nthUnderWay(k);
    }

    public int letter(int l, int what) {
        if (!world.books.hasLetter(l)) {
            return refused(BEYOND);
        }
        if (what < LETTER_KIND || what > LETTER_COPY_OF) {
            return refused(NO);
        }
        return world.books.ofLetter(l, what);
    }

    public int carries(int l, int i, int what) {
        Books books = world.books;
        if (!books.hasLetter(l) || i < 0 || i >= books.ofLetter(l, LETTER_PIECES)) {
            return refused(BEYOND);
        }
        if (what < PIECE_OF || what > PIECE_BROUGHT) {
            return refused(NO);
        }
        return books.ofPiece(l, i, what);
    }

    // ---- members

    public int state(int m, int what) {
        int why = world.whyNoMember(m);
        Member one = world.memberAt(m);
        if (why != 0 || one == null) {
            return refused(why);
        }
        switch (what) {
            case 0: return one.standing;
            case 1: return one.term;
            case 2: return one.turns;
            case 3: return MEMBERS - one.countKind(NO_NEWS);
            case 4: return one.countKind(ALIVE);
            case 5: return one.countKind(DOUBTED);
            case 6: return one.countKind(GONE);
            case 7: return one.countKind(LEFT);
            case 8: return one.asked;
            case 9: return one.bidFor;
            case 10: return one.roundSize;
            case 11: return one.place;
            default: return refused(NO);
        }
    }

    public int news(int m, int x, int what) {
        int why = world.whyNoNews(m, x);
        Member one = world.memberAt(m);
        if (why != 0 || one == null) {
            return refused(why);
        }
        switch (what) {
            case 0: return one.kinds[x];
            case 1: return one.terms[x];
            case 2: return one.told[x];
            case 3: return one.came[x];
            case 4: return one.brought[x];
            default: return refused(NO);
        }
    }

    public int as(int m, int x, int kind) {
        int why = world.whyNoNews(m, x);
        Member one = world.memberAt(m);
        if (why != 0 || one == null) {
            return refused(why);
        }
        if (kind < ALIVE || kind > LEFT) {
            return refused(NO);
        }
        // Each kind is all kinds of a lesser number, too.
        if (one.kinds[x] < kind) {
            return refused(KIND);
        }
        return one.terms[x];
    }

    public int round(int m, int i) {
        int why = world.whyNoMember(m);
        Member one = world.memberAt(m);
        if (why != 0 || one == null) {
            return refused(why);
        }
        if (i < 0 || i >= one.roundSize) {
            return refused(BEYOND);
        }
        return one.round[i];
    }

    public int next(int m) {
        int why = world.whyNoMember(m);
        Member one = world.memberAt(m);
        if (why != 0 || one == null) {
            return refused(why);
        }
        if (one.standing != UP) {
            return refused(DOWN);
        }
        return one.wouldAsk(spareRow);
    }

    public int copy(int m, int from, int n, int to) {
        int why = world.whyNoMember(m);
        Member one = world.memberAt(m);
        if (why != 0 || one == null) {
            return refused(why);
        }
        if (n < 0) {
            return refused(BELOW);
        }
        // Differences can't overflow here as the sums could.
        if (from < 0 || to < 0 || n > one.roundSize - from || n > TABLE_SIZE - to) {
            return refused(COPY);
        }
        System.arraycopy(one.round, from, numbers, to, n);
        return n;
    }

    public int table(int i) {
        if (i < 0 || i >= TABLE_SIZE) {
            return refused(BEYOND);
        }
        return numbers[i];
    }

    // ---- all

    public int agree() {
        return world.firstApart(0) == NONE ? 1 : 0;
    }

    public int apart(int what) {
        if (what < 0 || what > 2) {
            return refused(NO);
        }
        return world.firstApart(what);
    }

    public int count(int x, int kind) {
        if (!isMember(x)) {
            return refused(BEYOND);
        }
        if (kind < NO_NEWS || kind > LEFT) {
            return refused(NO);
        }
        return world.countUpWith(x, kind);
    }

    // ---- ways

    public int way(int m, int x) {
        int why = world.whyNoNews(m, x);
        Member one = world.memberAt(m);
        if (why != 0 || one == null) {
            return refused(why);
        }
        lastWay.follow(world.books, one.brought[x], x);
        return lastWay.size;
    }

    public int wayAt(int i) {
        if (i < 0 || i >= lastWay.size) {
            return refused(BEYOND);
        }
        return lastWay.steps[i];
    }

    public int forge(int i, int l) {
        if (i < 0 || i >= lastWay.size) {
            return refused(BEYOND);
        }
        lastWay.steps[i] = l;
        return 1;
    }

    public int check(int m, int x, int kind, int term) {
        if (!isMember(m) || !isMember(x)) {
            return refused(BEYOND);
        }
        Member one = world.memberAt(m);
        if (one == null) {
            return refused(MISSING);
        }
        if (lastWay.size == 0) {
            return one.saysItself(x, kind, term) ? 1 : 0;
        }
        return lastWay.stands(world.books, m, x, kind, term) ? 1 : 0;
    }

    // ---- acts again

    public int replay() {
        if (beside == null) {
            beside = new World();
        }
        beside.clear();
        Rows acts = world.acts;
        for (int i = 0; i < acts.size; i++) {
            long high = acts.get(i, ACT_SEED_HIGH);
            long low = acts.get(i, ACT_SEED_LOW);
            long seed = (high << 32) | (low & 0xFFFFFFFFL);
            beside.perform(acts.get(i, ACT_NAME), acts.get(i, ACT_FIRST), acts.get(i, ACT_SECOND), seed);
        }
        return beside.sameAs(world) ? 1 : 0;
    }

    public int image() {
        if (kept == null) {
            kept = new World();
        }
        kept.become(world);
        return kept.acts.size;
    }

    public int back() {
        if (kept == null) {
            return refused(NO);
        }
        world.become(kept);
        return world.acts.size;
    }

    public int trace(int what) {
        if (what < 0 || what >= TRACES) {
            return refused(NO);
        }
        return world.traces[what];
    }

    public int again() {
        return refusals.throwLatest();
    }

    public int status(int by) {
        if (by == 0) {
            return world.acts.size;
        }
        if (by > MISSING || by < FULL) {
            return refused(NO);
        }
        return refusals.counts[-by];
    }

    /** No act that was done answers below NONE, so such an answer is a refusal. */
    private int settled(int answer) {
        return answer < NONE ? refused(answer) : answer;
    }

    private int refused(int why) {
        refusals.keep(why);
        return why;
    }

    private static boolean isMember(int m) {
        return m >= 0 && m < MEMBERS;
    }

    /** The refusals, which no image and no act changes. */
    private static final class Refusals {
        final int[] counts;
        int latest;

        Refusals() {
            counts = new int[1 - FULL];
            latest = NOTHING;
        }

        void keep(int why) {
            if (why <= MISSING && why >= FULL) {
                counts[-why]++;
                latest = why;
            }
        }

        int throwLatest() {
            int thrown = latest;
            latest = NOTHING;
            return thrown;
        }
    }

    /** Rows of ints, of one width, in one array that grows to its limit and is used again. */
    private static final class Rows {
        private static final int FIRST_ROWS = 16;
        final int width;
        final int most;
        int[] cells;
        int size;

        Rows(int width, int most) {
            this.width = Math.max(1, width);
            this.most = Math.max(FIRST_ROWS, most);
            cells = new int[this.width * FIRST_ROWS];
            size = 0;
        }

        /** Room grows by doubling, so that all arrays ever made stay within twice the last one. */
        void reserve(int rows) {
            int needed = Math.min(rows, most) * width;
            if (needed > cells.length) {
                int doubled = Math.min(2 * cells.length, most * width);
                cells = Arrays.copyOf(cells, Math.max(needed, doubled));
            }
        }

        /** A new row, all 0, in room that was reserved; NONE without it. */
        int add() {
            int start = size * width;
            if (start + width > cells.length) {
                return NONE;
            }
            for (int i = start; i < start + width; i++) {
                cells[i] = 0;
            }
            size++;
            return size - 1;
        }

        int get(int row, int column) {
            if (row < 0 || row >= size || column < 0 || column >= width) {
                return NONE;
            }
            return cells[row * width + column];
        }

        void set(int row, int column, int value) {
            if (row >= 0 && row < size && column >= 0 && column < width) {
                cells[row * width + column] = value;
            }
        }

        void become(Rows other) {
            reserve(other.size);
            int length = other.size * other.width;
            if (other.width == width && length <= cells.length) {
                System.arraycopy(other.cells, 0, cells, 0, length);
                size = other.size;
            }
        }

        boolean sameAs(Rows other) {
            return size == other.size && width == other.width
                    && sameNumbers(cells, other.cells, size * width);
        }
    }

    /** Whether two arrays start with the same n numbers. */
    private static boolean sameNumbers(int[] some, int[] others, int n) {
        if (n > some.length || n > others.length) {
            return false;
        }
        for (int i = 0; i < n; i++) {
            if (some[i] != others[i]) {
                return false;
            }
        }
        return true;
    }

    /** All letters that were sent, with the pieces on them. */
    private static final class Books {
        final Rows letters;
        final Rows pieces;
        int delivered;
        int lost;

        Books() {
            letters = new Rows(LETTER_COLUMNS, MOST_LETTERS);
            pieces = new Rows(PIECE_COLUMNS, MOST_PIECES);
            delivered = 0;
            lost = 0;
        }

        void clear() {
            letters.size = 0;
            pieces.size = 0;
            delivered = 0;
            lost = 0;
        }

        boolean hasRoom() {
            return MOST_LETTERS - letters.size >= LETTERS_OF_ACT
                    && MOST_PIECES - pieces.size >= PIECES_OF_ACT;
        }

        void reserveForAct() {
            letters.reserve(letters.size + LETTERS_OF_ACT);
            pieces.reserve(pieces.size + PIECES_OF_ACT);
        }

        int sent() {
            return letters.size;
        }

        int stillUnderWay() {
            return letters.size - delivered - lost;
        }

        boolean hasLetter(int l) {
            return l >= 0 && l < letters.size;
        }

        int ofLetter(int l, int column) {
            return letters.get(l, column);
        }

        int ofPiece(int l, int i, int column) {
            if (i < 0 || i >= letters.get(l, LETTER_PIECES)) {
                return NONE;
            }
            return pieces.get(letters.get(l, LETTER_START) + i, column);
        }

        int nthUnderWay(int k) {
            int seen = 0;
            for (int l = 0; l < letters.size; l++) {
                if (letters.get(l, LETTER_FATE) == UNDER_WAY) {
                    if (seen == k) {
                        return l;
                    }
                    seen++;
                }
            }
            return NONE;
        }

        /** Opens a letter without pieces; those put from now on are on it. */
        int open(int kind, int from, int to, int about, int copyOf) {
            int l = letters.add();
            letters.set(l, LETTER_KIND, kind);
            letters.set(l, LETTER_FROM, from);
            letters.set(l, LETTER_TO, to);
            letters.set(l, LETTER_ABOUT, about);
            letters.set(l, LETTER_COPY_OF, copyOf);
            letters.set(l, LETTER_START, pieces.size);
            return l;
        }

        void put(int of, int kind, int term, int brought) {
            int row = pieces.add();
            int l = letters.size - 1;
            if (row == NONE || l < 0) {
                return;
            }
            pieces.set(row, PIECE_OF, of);
            pieces.set(row, PIECE_KIND, kind);
            pieces.set(row, PIECE_TERM, term);
            pieces.set(row, PIECE_BROUGHT, brought);
            letters.set(l, LETTER_PIECES, letters.get(l, LETTER_PIECES) + 1);
        }

        int sendCopy(int l) {
            int number = open(ofLetter(l, LETTER_KIND), ofLetter(l, LETTER_FROM), ofLetter(l, LETTER_TO),
                    ofLetter(l, LETTER_ABOUT), l);
            int n = ofLetter(l, LETTER_PIECES);
            for (int i = 0; i < n; i++) {
                put(ofPiece(l, i, PIECE_OF), ofPiece(l, i, PIECE_KIND), ofPiece(l, i, PIECE_TERM),
                        ofPiece(l, i, PIECE_BROUGHT));
            }
            return number;
        }

        void endAsDelivered(int l) {
            letters.set(l, LETTER_FATE, DELIVERED);
            delivered++;
        }

        void endAsLost(int l) {
            letters.set(l, LETTER_FATE, LOST);
            lost++;
        }

        /** Which piece on a letter is of x; a letter has one of each at most. */
        int findPiece(int l, int x) {
            int n = ofLetter(l, LETTER_PIECES);
            for (int i = 0; i < n; i++) {
                if (ofPiece(l, i, PIECE_OF) == x) {
                    return i;
                }
            }
            return NONE;
        }

        boolean reached(int l, int receiver) {
            return hasLetter(l) && ofLetter(l, LETTER_FATE) == DELIVERED && ofLetter(l, LETTER_TO) == receiver;
        }

        void become(Books other) {
            letters.become(other.letters);
            pieces.become(other.pieces);
            delivered = other.delivered;
            lost = other.lost;
        }

        boolean sameAs(Books other) {
            return delivered == other.delivered && lost == other.lost
                    && letters.sameAs(other.letters) && pieces.sameAs(other.pieces);
        }
    }

    /** The way that was told last, which forging may change. */
    private static final class Way {
        int[] steps;
        int size;

        Way() {
            steps = new int[16];
            size = 0;
        }

        /** A letter carries only what came by earlier ones, so a way is never longer than the books. */
        void follow(Books books, int first, int x) {
            size = 0;
            int l = first;
            for (int i = 0; i < MOST_LETTERS && books.hasLetter(l); i++) {
                add(l);
                l = books.ofPiece(l, books.findPiece(l, x), PIECE_BROUGHT);
            }
        }

        void add(int l) {
            if (size >= steps.length) {
                steps = Arrays.copyOf(steps, 2 * steps.length);
            }
            steps[size] = l;
            size++;
        }

        boolean stands(Books books, int m, int x, int kind, int term) {
            int receiver = m;
            for (int i = 0; i < size && i < steps.length; i++) {
                int l = steps[i];
                int kept = i + 1 < size && i + 1 < steps.length ? steps[i + 1] : NONE;
                int piece = books.findPiece(l, x);
                // A forged NONE in the midst is found in the next step: no letter bears that number.
                if (!books.reached(l, receiver) || piece == NONE
                        || books.ofPiece(l, piece, PIECE_KIND) != kind
                        || books.ofPiece(l, piece, PIECE_TERM) != term
                        || books.ofPiece(l, piece, PIECE_BROUGHT) != kept) {
                    return false;
                }
                receiver = books.ofLetter(l, LETTER_FROM);
            }
            return true;
        }
    }

    /** One of the crowd, with its roll and its round. */
    private static final class Member {
        private static final long SEED_FACTOR = 6364136223846793005L;
        private static final long SEED_STEP = 1442695040888963407L;
        private static final int DRAW_SHIFT = 33;

        final int self;
        boolean made;
        int standing;
        long seed;
        int term;
        int turns;
        int asked;
        int bidFor;
        final int[] kinds;
        final int[] terms;
        final int[] told;
        final int[] came;
        final int[] brought;
        final int[] round;
        int roundSize;
        int place;

        Member(int self) {
            this.self = self;
            made = false;
            kinds = new int[MEMBERS];
            terms = new int[MEMBERS];
            told = new int[MEMBERS];
            came = new int[MEMBERS];
            brought = new int[MEMBERS];
            round = new int[MEMBERS];
        }

        void begin(long firstSeed) {
            made = true;
            standing = UP;
            seed = firstSeed;
            term = 1;
            turns = 0;
            forgetAll();
        }

        /** Nothing is left but what it says of itself. */
        void forgetAll() {
            Arrays.fill(kinds, NO_NEWS);
            Arrays.fill(terms, 0);
            Arrays.fill(told, 0);
            Arrays.fill(came, 0);
            Arrays.fill(brought, 0);
            stopAsking();
            say(self, ALIVE, term);
        }

        void stopAsking() {
            asked = NONE;
            bidFor = NONE;
            roundSize = 0;
            place = 0;
        }

        void say(int x, int kind, int newTerm) {
            enter(x, kind, newTerm, NONE);
        }

        void enter(int x, int kind, int newTerm, int l) {
            if (x >= 0 && x < MEMBERS) {
                kinds[x] = kind;
                terms[x] = newTerm;
                told[x] = 0;
                came[x] = turns;
                brought[x] = l;
            }
        }

        void raiseTerm(int newTerm) {
            term = newTerm;
            enter(self, ALIVE, newTerm, NONE);
        }

        /** Takes a piece; true if that was a refutation. */
        boolean takePiece(int x, int kind, int pieceTerm, int l) {
            if (x == self) {
                boolean refutes = kind != ALIVE && pieceTerm >= term;
                if (refutes) {
                    raiseTerm(pieceTerm + 1);
                }
                return refutes;
            }
            if (isMember(x) && isBeaten(x, kind, pieceTerm)) {
                enter(x, kind, pieceTerm, l);
            }
            return false;
        }

        boolean isBeaten(int x, int kind, int pieceTerm) {
            return kinds[x] == NO_NEWS || pieceTerm > terms[x]
                    || pieceTerm == terms[x] && kind > kinds[x];
        }

        boolean hasNews(int x) {
            return isMember(x) && kinds[x] != NO_NEWS;
        }

        boolean thinksLiving(int x) {
            return x >= 0 && x < MEMBERS && (kinds[x] == ALIVE || kinds[x] == DOUBTED);
        }

        boolean saysItself(int x, int kind, int itsTerm) {
            return hasNews(x) && kinds[x] == kind && terms[x] == itsTerm && brought[x] == NONE;
        }

        int countKind(int kind) {
            int n = 0;
            for (int x = 0; x < MEMBERS; x++) {
                if (kinds[x] == kind) {
                    n++;
                }
            }
            return n;
        }

        void isAnswered(int x) {
            if (asked == x) {
                asked = NONE;
            }
            if (bidFor == x) {
                bidFor = NONE;
            }
        }

        static long stirred(long before) {
            return before * SEED_FACTOR + SEED_STEP;
        }

        static int drawn(long by, int n) {
            return n < 1 ? 0 : (int) ((by >>> DRAW_SHIFT) % n);
        }

        int draw(int n) {
            seed = stirred(seed);
            return drawn(seed, n);
        }

        /** All others that it thinks living, but one, by numbers; answers how many. */
        int gatherLiving(int[] row, int leftOut) {
            int n = 0;
            for (int x = 0; x < MEMBERS; x++) {
                if (x != self && x != leftOut && thinksLiving(x) && n < row.length) {
                    row[n] = x;
                    n++;
                }
            }
            return n;
        }

        /** The seed goes in and comes back, so that a round can be tried without any change. */
        static long shuffle(int[] row, int n, long by) {
            long now = by;
            for (int i = Math.min(n, row.length) - 1; i >= 1; i--) {
                now = stirred(now);
                int other = drawn(now, i + 1);
                int moved = row[i];
                row[i] = row[other];
                row[other] = moved;
            }
            return now;
        }

        void makeRound() {
            roundSize = gatherLiving(round, NONE);
            seed = shuffle(round, roundSize, seed);
            place = 0;
        }

        /** The place of the next one in the round as it stands, or NONE. */
        int nextPlace() {
            for (int i = place; i < roundSize && i < MEMBERS; i++) {
                if (thinksLiving(round[i])) {
                    return i;
                }
            }
            return NONE;
        }

        int stepRound() {
            int at = nextPlace();
            if (at == NONE) {
                return NONE;
            }
            place = at + 1;
            return round[at];
        }

        int wouldAsk(int[] spare) {
            int at = nextPlace();
            if (at != NONE) {
                return round[at];
            }
            int n = gatherLiving(spare, NONE);
            shuffle(spare, n, seed);
            return n > 0 && spare.length > 0 ? spare[0] : NONE;
        }

        /** All of whom it has news, by numbers; answers how many. */
        int pickAll(int[] picks) {
            int n = 0;
            for (int x = 0; x < MEMBERS; x++) {
                if (kinds[x] != NO_NEWS && n < picks.length) {
                    picks[n] = x;
                    n++;
                }
            }
            return n;
        }

        /** Those told least, the least first; answers how many. */
        int pickFreshest(int[] picks) {
            int n = 0;
            for (int x = 0; x < MEMBERS; x++) {
                if (kinds[x] != NO_NEWS && told[x] < MOST_TOLD) {
                    n = pickInOrder(picks, n, x);
                }
            }
            return n;
        }

        /** Puts x behind all picks told as often or less; the last of too many falls off. */
        int pickInOrder(int[] picks, int n, int x) {
            int at = n;
            while (at > 0 && told[picks[at - 1]] > told[x]) {
                at--;
            }
            if (at >= MOST_CARRIED) {
                return n;
            }
            int last = n < MOST_CARRIED ? n : MOST_CARRIED - 1;
            for (int i = last; i > at; i--) {
                picks[i] = picks[i - 1];
            }
            picks[at] = x;
            return last + 1;
        }

        void become(Member other) {
            made = other.made;
            standing = other.standing;
            seed = other.seed;
            term = other.term;
            turns = other.turns;
            asked = other.asked;
            bidFor = other.bidFor;
            System.arraycopy(other.kinds, 0, kinds, 0, MEMBERS);
            System.arraycopy(other.terms, 0, terms, 0, MEMBERS);
            System.arraycopy(other.told, 0, told, 0, MEMBERS);
            System.arraycopy(other.came, 0, came, 0, MEMBERS);
            System.arraycopy(other.brought, 0, brought, 0, MEMBERS);
            System.arraycopy(other.round, 0, round, 0, MEMBERS);
            roundSize = other.roundSize;
            place = other.place;
        }

        boolean sameAs(Member other) {
            return standing == other.standing && seed == other.seed && term == other.term
                    && turns == other.turns && asked == other.asked && bidFor == other.bidFor
                    && roundSize == other.roundSize && place == other.place
                    && sameNumbers(round, other.round, roundSize)
                    && sameNumbers(kinds, other.kinds, MEMBERS)
                    && sameNumbers(terms, other.terms, MEMBERS)
                    && sameNumbers(told, other.told, MEMBERS)
                    && sameNumbers(came, other.came, MEMBERS)
                    && sameNumbers(brought, other.brought, MEMBERS);
        }

        /** The least one of whom two rolls have other news, or NONE. */
        int differsIn(Member other) {
            for (int x = 0; x < MEMBERS; x++) {
                if (kinds[x] != other.kinds[x] || terms[x] != other.terms[x]) {
                    return x;
                }
            }
            return NONE;
        }
    }

    /** All that an act can change, so that acts can be done again in another world. */
    private static final class World {
        final Member[] members;
        int made;
        final long[] cuts;
        final Books books;
        final Rows acts;
        final int[] traces;
        final int[] picks;
        final int[] drawRow;

        World() {
            members = new Member[MEMBERS];
            made = 0;
            cuts = new long[MEMBERS];
            books = new Books();
            acts = new Rows(ACT_COLUMNS, MOST_ACTS);
            traces = new int[TRACES];
            picks = new int[MEMBERS];
            drawRow = new int[MEMBERS];
        }

        /** Members stay as objects and are made again, for the sake of the room. */
        void clear() {
            for (int m = 0; m < MEMBERS; m++) {
                Member one = members[m];
                if (one != null) {
                    one.made = false;
                }
            }
            made = 0;
            Arrays.fill(cuts, 0L);
            books.clear();
            acts.size = 0;
            Arrays.fill(traces, 0);
        }

        /** A member that was made, or null. */
        Member memberAt(int m) {
            if (!isMember(m)) {
                return null;
            }
            Member one = members[m];
            return one != null && one.made ? one : null;
        }

        /** The object for m, 0 .. 63, whether that member was made or not. */
        Member seat(int m) {
            Member one = members[m];
            if (one == null) {
                one = new Member(m);
                members[m] = one;
            }
            return one;
        }

        Member upAt(int m) {
            Member one = memberAt(m);
            return one != null && one.standing == UP ? one : null;
        }

        int whyNoMember(int m) {
            if (!isMember(m)) {
                return BEYOND;
            }
            return memberAt(m) == null ? MISSING : 0;
        }

        int whyNoNews(int m, int x) {
            if (!isMember(m) || !isMember(x)) {
                return BEYOND;
            }
            Member one = memberAt(m);
            return one == null || !one.hasNews(x) ? MISSING : 0;
        }

        /** Does an act, or answers why it is refused; an act that was done is kept. */
        int perform(int act, int a, int b, long seed) {
            int why = whyRefused(act, a, b);
            if (why != 0) {
                return why;
            }
            keepAct(act, a, b, seed);
            books.reserveForAct();
            switch (act) {
                case DO_MEMBER: return makeMember(a, seed);
                case DO_DELIVER: return bring(a);
                case DO_LOSE:
                    books.endAsLost(a);
                    return books.stillUnderWay();
                case DO_TWICE: return books.sendCopy(a);
                case DO_CUT: return setLink(a, b, true);
                case DO_HEAL: return setLink(a, b, false);
                default: break;
            }
            Member one = memberAt(a);
            if (one == null) {
                return MISSING;
            }
            switch (act) {
                case DO_JOIN: return send(one, JOIN, b, NONE);
                case DO_LEAVE: return goAway(one);
                case DO_TURN: return takeTurn(one);
                case DO_FALL: return fallDown(one);
                case DO_RISE: return riseUp(one);
                default: return NO;
            }
        }

        void keepAct(int act, int a, int b, long seed) {
            acts.reserve(acts.size + 1);
            int row = acts.add();
            acts.set(row, ACT_NAME, act);
            acts.set(row, ACT_FIRST, a);
            acts.set(row, ACT_SECOND, b);
            acts.set(row, ACT_SEED_HIGH, (int) (seed >>> 32));
            acts.set(row, ACT_SEED_LOW, (int) seed);
        }

        int whyRefused(int act, int a, int b) {
            if (isBeyond(act, a, b)) {
                return BEYOND;
            }
            if (isMissing(act, a, b)) {
                return MISSING;
            }
            if (isDown(act, a)) {
                return DOWN;
            }
            if (isNotAsTold(act, a, b)) {
                return NO;
            }
            boolean room = books.hasRoom() && acts.size < MOST_ACTS;
            return room ? 0 : FULL;
        }

        boolean isBeyond(int act, int a, int b) {
            switch (act) {
                case DO_DELIVER:
                case DO_LOSE:
                case DO_TWICE:
                    return !books.hasLetter(a);
                case DO_JOIN:
                case DO_CUT:
                case DO_HEAL:
                    return !isMember(a) || !isMember(b);
                default:
                    return !isMember(a);
            }
        }

        boolean isMissing(int act, int a, int b) {
            switch (act) {
                case DO_DELIVER:
                case DO_LOSE:
                case DO_TWICE:
                    return books.ofLetter(a, LETTER_FATE) != UNDER_WAY;
                case DO_MEMBER:
                case DO_CUT:
                case DO_HEAL:
                    return false;
                case DO_JOIN:
                    return memberAt(a) == null || memberAt(b) == null;
                default:
                    return memberAt(a) == null;
            }
        }

        boolean isDown(int act, int a) {
            switch (act) {
                case DO_JOIN:
                case DO_LEAVE:
                case DO_TURN:
                case DO_FALL:
                    return upAt(a) == null;
                default:
                    return false;
            }
        }

        boolean isNotAsTold(int act, int a, int b) {
            switch (act) {
                case DO_MEMBER:
                    return memberAt(a) != null;
                case DO_RISE:
                    return upAt(a) != null;
                case DO_JOIN:
                case DO_CUT:
                case DO_HEAL:
                    return a == b;
                default:
                    return false;
            }
        }

        int makeMember(int m, long seed) {
            if (!isMember(m)) {
                return BEYOND;
            }
            seat(m).begin(seed);
            made++;
            return made;
        }

        int goAway(Member one) {
            one.say(one.self, LEFT, one.term);
            one.standing = AWAY;
            one.stopAsking();
            return sendDrawn(one, WHOLE_ROLL, NONE);
        }

        int fallDown(Member one) {
            one.standing = FALLEN;
            one.forgetAll();
            return one.term;
        }

        int riseUp(Member one) {
            one.standing = UP;
            one.raiseTerm(one.term + 1);
            return one.term;
        }

        int takeTurn(Member one) {
            one.turns++;
            endOldDoubts(one);
            doubtUnanswered(one);
            int sent = 0;
            if (one.asked != NONE) {
                one.bidFor = one.asked;
                one.asked = NONE;
                sent = sendDrawn(one, BID, one.bidFor);
            }
            return sent + askNext(one);
        }

        void endOldDoubts(Member one) {
            for (int x = 0; x < MEMBERS; x++) {
                if (one.kinds[x] == DOUBTED) {
                    tally(TRACE_DOUBTS);
                    if (one.turns - one.came[x] >= DOUBT_AGE) {
                        tally(TRACE_GONE);
                        one.say(x, GONE, one.terms[x]);
                    }
                }
            }
        }

        void doubtUnanswered(Member one) {
            int x = one.bidFor;
            one.bidFor = NONE;
            if (isMember(x) && one.kinds[x] == ALIVE) {
                one.say(x, DOUBTED, one.terms[x]);
            }
        }

        int askNext(Member one) {
            if (one.nextPlace() == NONE) {
                one.makeRound();
                tally(TRACE_ROUNDS);
            }
            int x = one.stepRound();
            if (x == NONE) {
                return 0;
            }
            send(one, ASK, x, NONE);
            one.asked = x;
            return 1;
        }

        /** Sends to three that are drawn, but not to the one that the letters are about. */
        int sendDrawn(Member one, int kind, int about) {
            int left = one.gatherLiving(drawRow, about);
            int sent = 0;
            while (sent < MOST_DRAWN && left > 0) {
                int at = one.draw(left);
                send(one, kind, drawRow[at], about);
                sent++;
                left--;
                System.arraycopy(drawRow, at + 1, drawRow, at, left - at);
            }
            return sent;
        }

        int send(Member from, int kind, int to, int about) {
            int l = books.open(kind, from.self, to, about, NONE);
            boolean whole = kind == WHOLE_ROLL;
            int n = whole ? from.pickAll(picks) : from.pickFreshest(picks);
            for (int i = 0; i < n && i < MEMBERS; i++) {
                int x = picks[i];
                books.put(x, from.kinds[x], from.terms[x], from.brought[x]);
                tally(TRACE_PUT + from.kinds[x] - ALIVE);
                if (!whole) {
                    from.told[x]++;
                }
            }
            return l;
        }

        int bring(int l) {
            int from = books.ofLetter(l, LETTER_FROM);
            int to = books.ofLetter(l, LETTER_TO);
            Member receiver = upAt(to);
            if (receiver == null || isCut(from, to)) {
                books.endAsLost(l);
                return NONE;
            }
            books.endAsDelivered(l);
            takeNews(receiver, l);
            return respond(receiver, l);
        }

        void takeNews(Member receiver, int l) {
            int n = books.ofLetter(l, LETTER_PIECES);
            for (int i = 0; i < n; i++) {
                int kind = books.ofPiece(l, i, PIECE_KIND);
                tally(TRACE_TAKEN + kind - ALIVE);
                if (receiver.takePiece(books.ofPiece(l, i, PIECE_OF), kind, books.ofPiece(l, i, PIECE_TERM), l)) {
                    tally(TRACE_REFUTED);
                }
            }
        }

        /** What a letter asks for beside its news; answers how many letters were sent. */
        int respond(Member receiver, int l) {
            int from = books.ofLetter(l, LETTER_FROM);
            int about = books.ofLetter(l, LETTER_ABOUT);
            switch (books.ofLetter(l, LETTER_KIND)) {
                case ASK:
                    send(receiver, ANSWER, from, about);
                    return 1;
                case BID:
                    send(receiver, ASK, about, from);
                    return 1;
                case ANSWER:
                    if (about == NONE) {
                        receiver.isAnswered(from);
                        return 0;
                    }
                    send(receiver, PASSED, about, from);
                    return 1;
                case PASSED:
                    receiver.isAnswered(about);
                    return 0;
                case JOIN:
                    send(receiver, WHOLE_ROLL, from, NONE);
                    return 1;
                default:
                    return 0;
            }
        }

        boolean isCut(int a, int b) {
            return isMember(a) && isMember(b) && (cuts[a] >>> b & 1L) != 0L;
        }

        /** A link is kept at both of its ends; answers 1 if that changed it. */
        int setLink(int a, int b, boolean toCut) {
            if (!isMember(a) || !isMember(b) || isCut(a, b) == toCut) {
                return 0;
            }
            cuts[a] ^= 1L << b;
            cuts[b] ^= 1L << a;
            return 1;
        }

        void tally(int what) {
            if (what >= 0 && what < TRACES) {
                traces[what]++;
            }
        }

        Member firstUp() {
            for (int m = 0; m < MEMBERS; m++) {
                Member one = upAt(m);
                if (one != null) {
                    return one;
                }
            }
            return null;
        }

        /**
         * Of the first two that are up and apart: the lesser (0), the greater (1), whom they differ in (2).
         * The lesser can only be the first that is up: if none differs from that one, no two differ.
         */
        int firstApart(int what) {
            Member first = firstUp();
            if (first == null) {
                return NONE;
            }
            for (int b = first.self + 1; b < MEMBERS; b++) {
                Member other = upAt(b);
                int x = other == null ? NONE : first.differsIn(other);
                if (x != NONE) {
                    return what == 0 ? first.self : what == 1 ? b : x;
                }
            }
            return NONE;
        }

        int countUpWith(int x, int kind) {
            int n = 0;
            for (int m = 0; m < MEMBERS; m++) {
                Member one = upAt(m);
                if (m != x && one != null && isMember(x) && one.kinds[x] == kind) {
                    n++;
                }
            }
            return n;
        }

        void become(World other) {
            for (int m = 0; m < MEMBERS; m++) {
                Member its = other.memberAt(m);
                Member mine = members[m];
                if (its != null) {
                    seat(m).become(its);
                } else if (mine != null) {
                    mine.made = false;
                }
            }
            made = other.made;
            System.arraycopy(other.cuts, 0, cuts, 0, MEMBERS);
            books.become(other.books);
            acts.become(other.acts);
            System.arraycopy(other.traces, 0, traces, 0, TRACES);
        }

        boolean sameAs(World other) {
            for (int m = 0; m < MEMBERS; m++) {
                Member mine = memberAt(m);
                Member its = other.memberAt(m);
                if ((mine == null) != (its == null) || cuts[m] != other.cuts[m]) {
                    return false;
                }
                if (mine != null && its != null && !mine.sameAs(its)) {
                    return false;
                }
            }
            return made == other.made && books.sameAs(other.books);
        }
    }
}
