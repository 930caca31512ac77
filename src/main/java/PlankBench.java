/**
 * A bench for two who lay planks, one along, one across: every small board is worth an exact game,
 * games are kept in their least form, added, turned about, compared and told by kind; who wins
 * several boards, and by which plank, is told by play itself.
 */
public final class PlankBench {
    public static final int NUMBER = -1;
    public static final int KIND = -2;
    public static final int LARGE = -3;
    public static final int NONE = -4;

    private static final int BOARDS = 6;
    private static final int FIELDS = 16;
    private static final int SIDE = 4;
    private static final int SPOTS = 10;

    /** Both the one who lays along and the side of what that one can move to. */
    private static final int LEFT = 0;
    /** Both the one who lays across and the side of what that one can move to. */
    private static final int RIGHT = 1;

    private static final int MOST_WORTH_FIELDS = 10;
    private static final int MOST_PLAY_FIELDS = 12;
    private static final int MOST_DEEP = 20;
    private static final int MOST_SIZE = 300;
    private static final int MOST_COMPARED = 600;
    private static final int NOT_TOLD = -1000000;

    /**
     * A row of bits is so many words long: the document's limits keep every SIZE at 300 or less, and
     * what stands on the workshop at one more.
     */
    private static final int WORDS = 5;
    private static final int ROOM = 64 * WORDS;

    private final Board[] boards;
    private final Form[] spots;
    private final Form nought;
    private final Planks planks;
    private final Workshop workshop;
    private final Keeper keeper;
    private final Teller teller;
    private final Play play;

    public PlankBench() {
        boards = new Board[BOARDS];
        for (int b = 0; b < BOARDS; b++) {
            boards[b] = new Board();
        }
        spots = new Form[SPOTS];
        for (int s = 0; s < SPOTS; s++) {
            spots[s] = new Form(ROOM);
        }
        nought = new Form(1);
        planks = new Planks();
        workshop = new Workshop();
        keeper = new Keeper();
        teller = new Teller();
        play = new Play();
    }

    // ---- boards

    public int row(int b, int r, int bits) {
        if (!isBoard(b) || r < 0 || r >= SIDE || bits < 0 || bits > 15) {
            return NUMBER;
        }
        boards[b].setRow(r, bits);
        return boards[b].freeCount();
    }

    public boolean field(int b, int f) {
        return isBoard(b) && boards[b].isFree(f);
    }

    public int fields(int b) {
        return isBoard(b) ? boards[b].freeCount() : NUMBER;
    }

    public int parts(int b) {
        return isBoard(b) ? boards[b].partCount() : NUMBER;
    }

    public int moves(int b, int who) {
        return isBoard(b) && isSide(who) ? boards[b].plankCount(who) : NUMBER;
    }

    public int lay(int b, int f, int who) {
        if (!isBoard(b) || !isSide(who) || f < 0 || f >= FIELDS) {
            return NUMBER;
        }
        return boards[b].put(f, who) ? boards[b].laidCount() : KIND;
    }

    public int lift(int b) {
        return isBoard(b) ? boards[b].takeBack() : NUMBER;
    }

    public int quarter(int b, int to) {
        if (!isBoard(b) || !isBoard(to)) {
            return NUMBER;
        }
        boards[to].become(boards[b].turnedMask());
        return boards[to].freeCount();
    }

    // ---- games made

    public int worth(int b, int to) {
        if (!isBoard(b) || !isSpot(to)) {
            return NUMBER;
        }
        if (boards[b].freeCount() > MOST_WORTH_FIELDS) {
            return LARGE;
        }
        planks.clear();
        planks.bring(boards[b], b);
        return keep(workshop.makeBoard(planks), to);
    }

    public int number(int n, int k, int to) {
        if (k < 0 || k > 3 || n < -(8 << k) || n > 8 << k || !isSpot(to)) {
            return NUMBER;
        }
        return keep(workshop.makeNumber(n, k), to);
    }

    public int up(int j, boolean star, int to) {
        if (j < -6 || j > 6 || !isSpot(to)) {
            return NUMBER;
        }
        return keep(workshop.makeUps(j, star), to);
    }

    public int game(int lefts, int rights, int to) {
        if (!isSpotSet(lefts) || !isSpotSet(rights) || !isSpot(to)) {
            return NUMBER;
        }
        if (isTooDeep(lefts | rights) || sizeOf(lefts) + sizeOf(rights) > MOST_SIZE) {
            return LARGE;
        }
        return keep(workshop.makeOf(spots, lefts, rights), to);
    }

    public int add(int a, int b, int to) {
        if (!isSpot(a) || !isSpot(b) || !isSpot(to)) {
            return NUMBER;
        }
        if (spots[a].size * spots[b].size > MOST_SIZE) {
            return LARGE;
        }
        return keep(workshop.makeSum(spots[a], spots[b]), to);
    }

    public int turn(int a, int to) {
        if (!isSpot(a) || !isSpot(to)) {
            return NUMBER;
        }
        return keep(workshop.copy(spots[a], true), to);
    }

    public int option(int a, int side, int i, int to) {
        if (!isSpot(a) || !isSide(side) || !isSpot(to)) {
            return NUMBER;
        }
        int chosen = spots[a].options(side).bitAt(spots[a].size - 1, i);
        if (chosen < 0) {
            return NONE;
        }
        // The spot that is read may be the one that is written, so its GAME is copied first.
        workshop.copy(spots[a], false);
        return keep(chosen, to);
    }

    // ---- games told

    public int told(int a, int what) {
        if (!isSpot(a)) {
            return NUMBER;
        }
        Form form = spots[a];
        switch (what) {
            case 0:
                return form.size;
            case 1:
                return form.deep;
            case 2:
                return form.lefts.bitCount(form.size - 1);
            case 3:
                return form.rights.bitCount(form.size - 1);
            case 4:
                return teller.kindOf(form);
            default:
                return NUMBER;
        }
    }

    public int compare(int a, int b) {
        if (!isSpot(a) || !isSpot(b)) {
            return NUMBER;
        }
        if (spots[a].size + spots[b].size > MOST_COMPARED) {
            return LARGE;
        }
        return workshop.relation(spots[a], spots[b]);
    }

    public int wins(int a) {
        return isSpot(a) ? workshop.relation(spots[a], nought) : NUMBER;
    }

    public int value(int a, int what) {
        if (!isSpot(a) || !isPartOfValue(what)) {
            return NOT_TOLD;
        }
        return teller.kindOf(spots[a]) == 1 ? teller.stopOf(spots[a], LEFT, what) : NOT_TOLD;
    }

    public int ups(int a, int what) {
        if (!isSpot(a) || !isPartOfValue(what)) {
            return NOT_TOLD;
        }
        return teller.kindOf(spots[a]) == 3 ? teller.upsOf(spots[a], what) : NOT_TOLD;
    }

    public int stop(int a, int side, int what) {
        if (!isSpot(a) || !isSide(side) || !isPartOfValue(what)) {
            return NOT_TOLD;
        }
        return teller.stopOf(spots[a], side, what);
    }

    // ---- several boards, by play

    public int beginner(int boards, int who) {
        int refused = layOut(boards, who);
        if (refused != 0) {
            return refused;
        }
        return play.isWonBy(planks, who) ? 1 : 0;
    }

    public int best(int boards, int who) {
        int refused = layOut(boards, who);
        if (refused != 0) {
            return refused;
        }
        int place = play.firstWinning(planks, who);
        return place < 0 ? NONE : place;
    }

    // ---- helpers

    private int layOut(int chosen, int who) {
        if (chosen < 0 || chosen >= 1 << BOARDS || !isSide(who)) {
            return NUMBER;
        }
        int free = 0;
        for (int b = 0; b < BOARDS; b++) {
            free += (chosen >> b & 1) * boards[b].freeCount();
        }
        if (free > MOST_PLAY_FIELDS) {
            return LARGE;
        }
        planks.clear();
        for (int b = 0; b < BOARDS; b++) {
            if ((chosen >> b & 1) != 0) {
                planks.bring(boards[b], b);
            }
        }
        return 0;
    }

    private int keep(int made, int to) {
        keeper.store(workshop, made, spots[to]);
        return spots[to].size;
    }

    private boolean isTooDeep(int chosen) {
        for (int s = 0; s < SPOTS; s++) {
            if ((chosen >> s & 1) != 0 && spots[s].deep > MOST_DEEP) {
                return true;
            }
        }
        return false;
    }

    private int sizeOf(int chosen) {
        int sum = 0;
        for (int s = 0; s < SPOTS; s++) {
            sum += (chosen >> s & 1) * spots[s].size;
        }
        return sum;
    }

    private static boolean isBoard(int b) {
        return b >= 0 && b < BOARDS;
    }

    private static boolean isSpot(int s) {
        return s >= 0 && s < SPOTS;
    }

    private static boolean isSpotSet(int chosen) {
        return chosen >= 0 && chosen < 1 << SPOTS;
    }

    private static boolean isSide(int side) {
        return side == LEFT || side == RIGHT;
    }

    private static boolean isPartOfValue(int what) {
        return what == 0 || what == 1;
    }

    /** One board: its FREE fields as a mask, and the planks that can still be lifted. */
    private static final class Board {
        private static final int MOST_LAID = FIELDS / 2;

        private int free;
        private int laid;
        private final int[] laidAt = new int[MOST_LAID];
        private final int[] laidMask = new int[MOST_LAID];

        void setRow(int r, int bits) {
            free = free & ~(15 << SIDE * r) | bits << SIDE * r;
            laid = 0;
        }

        void become(int mask) {
            free = mask;
            laid = 0;
        }

        int freeMask() {
            return free;
        }

        boolean isFree(int f) {
            return f >= 0 && f < FIELDS && (free >> f & 1) != 0;
        }

        int freeCount() {
            return Integer.bitCount(free);
        }

        int laidCount() {
            return laid;
        }

        /** The mask of a plank that can be laid, 0 if it can't. */
        int plankMask(int f, int who) {
            if (f < 0 || f >= FIELDS || who == LEFT && f % SIDE == SIDE - 1) {
                return 0;
            }
            int next = who == LEFT ? f + 1 : f + SIDE;
            return isFree(f) && isFree(next) ? 1 << f | 1 << next : 0;
        }

        int plankCount(int who) {
            int count = 0;
            for (int f = 0; f < FIELDS; f++) {
                if (plankMask(f, who) != 0) {
                    count++;
                }
            }
            return count;
        }

        boolean put(int f, int who) {
            int mask = plankMask(f, who);
            if (mask == 0 || laid >= MOST_LAID) {
                return false;
            }
            laidAt[laid] = f;
            laidMask[laid] = mask;
            laid++;
            free &= ~mask;
            return true;
        }

        int takeBack() {
            if (laid <= 0 || laid > MOST_LAID) {
                return NONE;
            }
            laid--;
            free |= laidMask[laid];
            return laidAt[laid];
        }

        int turnedMask() {
            int turned = 0;
            for (int f = 0; f < FIELDS; f++) {
                int from = SIDE * (SIDE - 1 - f % SIDE) + f / SIDE;
                turned |= (free >> from & 1) << f;
            }
            return turned;
        }

        int partCount() {
            int rest = free;
            int count = 0;
            for (int f = 0; f < FIELDS; f++) {
                if ((rest >> f & 1) != 0) {
                    rest &= ~partOf(f);
                    count++;
                }
            }
            return count;
        }

        private int partOf(int f) {
            int part = 1 << f;
            // Every round that changes anything adds a field, so sixteen rounds are enough.
            for (int round = 0; round < FIELDS; round++) {
                int right = (part & 0x7777) << 1;
                int left = (part & 0xEEEE) >> 1;
                part |= (right | left | part << SIDE | part >> SIDE) & free;
            }
            return part;
        }
    }

    /**
     * The planks that can be laid on some boards taken as one, whose FREE fields are numbered
     * through, so that what is left of all of them is one small mask.
     */
    private static final class Planks {
        private int fieldCount;
        private final int[] counts = new int[2];
        private final int[] masks = new int[2 * FIELDS];
        private final int[] places = new int[2 * FIELDS];

        void clear() {
            fieldCount = 0;
            counts[LEFT] = 0;
            counts[RIGHT] = 0;
        }

        void bring(Board board, int b) {
            if (board == null || fieldCount + board.freeCount() > MOST_PLAY_FIELDS) {
                return;
            }
            for (int f = 0; f < FIELDS; f++) {
                note(LEFT, board.plankMask(f, LEFT), board.freeMask(), FIELDS * b + f);
                note(RIGHT, board.plankMask(f, RIGHT), board.freeMask(), FIELDS * b + f);
            }
            fieldCount += board.freeCount();
        }

        private void note(int who, int plank, int free, int place) {
            int count = counts[who];
            if (plank == 0 || count >= FIELDS) {
                return;
            }
            masks[FIELDS * who + count] = narrowed(plank, free) << fieldCount;
            places[FIELDS * who + count] = place;
            counts[who] = count + 1;
        }

        /** The bits of a plank, moved to where they stand among the FREE ones alone. */
        private static int narrowed(int plank, int free) {
            int narrow = 0;
            int at = 0;
            for (int f = 0; f < FIELDS; f++) {
                if ((free >> f & 1) != 0) {
                    narrow |= (plank >> f & 1) << at;
                    at++;
                }
            }
            return narrow;
        }

        int allFields() {
            return (1 << fieldCount) - 1;
        }

        int count(int who) {
            return isSide(who) ? counts[who] : 0;
        }

        int mask(int who, int i) {
            return i >= 0 && i < count(who) ? masks[FIELDS * who + i] : 0;
        }

        int place(int who, int i) {
            return i >= 0 && i < count(who) ? places[FIELDS * who + i] : NONE;
        }
    }

    /** Who wins, found by trying every plank. */
    private static final class Play {
        private static final int STATES = 1 << MOST_PLAY_FIELDS;
        private static final int MOST_PLANKS = MOST_PLAY_FIELDS / 2;
        private static final int WON = 1;
        private static final int LOST = 2;

        private final int[] known = new int[2 * STATES];

        boolean isWonBy(Planks planks, int who) {
            int all = planks.allFields();
            forget(all);
            return isWon(known, planks, all, who, 0);
        }

        /** The place of the first plank that wins, below 0 if none does. */
        int firstWinning(Planks planks, int who) {
            int all = planks.allFields();
            forget(all);
            for (int i = 0; i < planks.count(who); i++) {
                if (!isWon(known, planks, all & ~planks.mask(who, i), 1 - who, 1)) {
                    return planks.place(who, i);
                }
            }
            return NONE;
        }

        /** What was found on other boards doesn't hold on these. */
        private void forget(int all) {
            for (int state = 0; state < known.length && state < 2 * all + 2; state++) {
                known[state] = 0;
            }
        }

        private static boolean isWon(int[] known, Planks planks, int free, int who, int laid) {
            int state = 2 * free + who;
            if (laid > MOST_PLANKS || !isSide(who) || state < 0 || state >= known.length) {
                return false;
            }
            if (known[state] != 0) {
                return known[state] == WON;
            }
            boolean won = false;
            for (int i = 0; i < planks.count(who) && !won; i++) {
                int mask = planks.mask(who, i);
                won = (free & mask) == mask
                    && !isWon(known, planks, free & ~mask, 1 - who, laid + 1);
            }
            known[state] = won ? WON : LOST;
            return won;
        }
    }

    /**
     * Rows of bits, one bit for each GAME that a row may name. Loops over them go from bit to bit by
     * next(), but by one at least: so that they end can be seen without looking here.
     */
    private static final class Rows {
        private final int rowCount;
        private final long[] words;

        Rows(int wanted) {
            rowCount = Math.max(1, Math.min(wanted, ROOM));
            words = new long[rowCount * WORDS];
        }

        private boolean isRow(int r) {
            return r >= 0 && r < rowCount;
        }

        /** Where the word of a bit stands, below 0 if there is no such bit. */
        private int wordAt(int r, int bit) {
            return r >= 0 && r < rowCount && bit >= 0 && bit < ROOM ? r * WORDS + (bit >> 6) : NONE;
        }

        boolean has(int r, int bit) {
            int at = wordAt(r, bit);
            return at >= 0 && (words[at] >> (bit & 63) & 1L) != 0L;
        }

        void put(int r, int bit) {
            int at = wordAt(r, bit);
            if (at >= 0) {
                words[at] |= 1L << (bit & 63);
            }
        }

        void drop(int r, int bit) {
            int at = wordAt(r, bit);
            if (at >= 0) {
                words[at] &= ~(1L << (bit & 63));
            }
        }

        void clear(int r) {
            if (isRow(r)) {
                for (int w = 0; w < WORDS; w++) {
                    words[r * WORDS + w] = 0L;
                }
            }
        }

        void copy(int r, Rows from, int other) {
            if (from != null && isRow(r) && from.isRow(other)) {
                for (int w = 0; w < WORDS; w++) {
                    words[r * WORDS + w] = from.words[other * WORDS + w];
                }
            }
        }

        void join(int r, Rows from, int other) {
            if (from != null && isRow(r) && from.isRow(other)) {
                for (int w = 0; w < WORDS; w++) {
                    words[r * WORDS + w] |= from.words[other * WORDS + w];
                }
            }
        }

        void swap(int r, int other) {
            if (isRow(r) && isRow(other)) {
                for (int w = 0; w < WORDS; w++) {
                    long word = words[r * WORDS + w];
                    words[r * WORDS + w] = words[other * WORDS + w];
                    words[other * WORDS + w] = word;
                }
            }
        }

        int bitCount(int r) {
            int count = 0;
            if (isRow(r)) {
                for (int w = 0; w < WORDS; w++) {
                    count += Long.bitCount(words[r * WORDS + w]);
                }
            }
            return count;
        }

        /** The first bit of a row at or above from, ROOM if there is none. */
        int next(int r, int from) {
            if (wordAt(r, from) < 0) {
                return ROOM;
            }
            long cut = -1L << (from & 63);
            for (int w = from >> 6; w < WORDS; w++) {
                long rest = words[r * WORDS + w] & cut;
                if (rest != 0L) {
                    return 64 * w + Long.bitCount((rest & -rest) - 1L);
                }
                cut = -1L;
            }
            return ROOM;
        }

        /** The i-th bit of a row, below 0 if it has none such. */
        int bitAt(int r, int i) {
            int before = 0;
            for (int bit = next(r, 0); bit < ROOM; bit = Math.max(bit + 1, next(r, bit + 1))) {
                if (before == i) {
                    return bit;
                }
                before++;
            }
            return NONE;
        }

        /**
         * The first bit that two rows have in common, below 0 if there is none. None at or above
         * the bound is set in both, so the words behind it need no look: most GAMES are small, and
         * nothing is asked as often as this.
         */
        int common(int r, Rows from, int other, int bound) {
            if (from == null || !isRow(r) || !from.isRow(other)) {
                return NONE;
            }
            int end = Math.min(WORDS, bound + 63 >> 6);
            for (int w = 0; w < end; w++) {
                long both = words[r * WORDS + w] & from.words[other * WORDS + w];
                if (both != 0L) {
                    return 64 * w + Long.bitCount((both & -both) - 1L);
                }
            }
            return NONE;
        }

        /**
         * Below 0 if row r has the lowest bit that only one of both has, above 0 if the other has
         * it. Of rows with as many bits that is how they stand at the first place they differ in.
         */
        int ahead(int r, int other) {
            if (!isRow(r) || !isRow(other)) {
                return 0;
            }
            for (int w = 0; w < WORDS; w++) {
                long word = words[r * WORDS + w];
                long unlike = word ^ words[other * WORDS + w];
                if (unlike != 0L) {
                    return (word & unlike & -unlike) != 0L ? -1 : 1;
                }
            }
            return 0;
        }
    }

    /**
     * A GAME in LEAST FORM: all its FOLLOWERS, in ORDER, so that NOUGHT is the first and the GAME
     * itself the last, and the LEFT and RIGHT ones of each as rows of their numbers here.
     */
    private static final class Form {
        private final Rows lefts;
        private final Rows rights;
        private int size = 1;
        private int deep = 0;

        Form(int room) {
            lefts = new Rows(room);
            rights = new Rows(room);
        }

        Rows options(int side) {
            return side == LEFT ? lefts : rights;
        }
    }

    /**
     * Where GAMES are made. Each GAME on it is in LEAST FORM, unlike all others, and stands behind
     * its LEFT and RIGHT ones; how any two compare is kept, so a new one is told by one pass.
     */
    private static final class Workshop {
        /** Rows of the GAME in hand beside LEFT and RIGHT, its options so far. */
        private static final int ABOVE = 2;
        private static final int BELOW = 3;
        private static final int NOT_ABOVE = 4;
        private static final int NOT_BELOW = 5;
        private static final int HAND_ROWS = 6;

        private static final int SUBSETS = 1 << MOST_WORTH_FIELDS;
        private static final int UNSEEN = -2;
        private static final int SEEN = -1;

        private int count;
        private final Rows lefts = new Rows(ROOM);
        private final Rows rights = new Rows(ROOM);
        /** Row g: those that are AT LEAST g. */
        private final Rows above = new Rows(ROOM);
        /** Row g: those that g is AT LEAST. */
        private final Rows below = new Rows(ROOM);
        private final Rows hand = new Rows(HAND_ROWS);
        /** What was made of each follower, pair or rest of a board in the present call. */
        private final int[] made = new int[SUBSETS];
        private final int[] roots = new int[SPOTS];

        Rows options(int side) {
            return side == LEFT ? lefts : rights;
        }

        int makeBoard(Planks planks) {
            count = 0;
            int all = planks.allFields();
            if (all < 0 || all >= SUBSETS) {
                return makeNought();
            }
            markRests(planks, all);
            for (int rest = 0; rest <= all; rest++) {
                if (made[rest] == SEEN) {
                    openHand();
                    offerRests(planks, rest, LEFT);
                    offerRests(planks, rest, RIGHT);
                    made[rest] = settle();
                }
            }
            return made[all];
        }

        /** Only what play can leave is a FOLLOWER; other rests would just crowd the workshop. */
        private void markRests(Planks planks, int all) {
            for (int rest = 0; rest < all; rest++) {
                made[rest] = UNSEEN;
            }
            made[all] = SEEN;
            for (int rest = all; rest > 0; rest--) {
                if (made[rest] == SEEN) {
                    markNext(planks, rest, LEFT);
                    markNext(planks, rest, RIGHT);
                }
            }
        }

        private void markNext(Planks planks, int rest, int who) {
            for (int i = 0; i < planks.count(who); i++) {
                int mask = planks.mask(who, i);
                if ((rest & mask) == mask) {
                    made[rest & ~mask] = SEEN;
                }
            }
        }

        private void offerRests(Planks planks, int rest, int who) {
            for (int i = 0; i < planks.count(who); i++) {
                int mask = planks.mask(who, i);
                if ((rest & mask) == mask) {
                    hand.put(who, made[rest & ~mask]);
                }
            }
        }

        private int makeNought() {
            count = 0;
            openHand();
            return settle();
        }

        private int makePair(int left, int right) {
            openHand();
            hand.put(LEFT, left);
            hand.put(RIGHT, right);
            return settle();
        }

        int makeNumber(int n, int k) {
            int parts = 1 << Math.max(0, Math.min(k, 3));
            int floor = Math.floorDiv(n, parts);
            int away = n < 0 ? RIGHT : LEFT;
            int most = Math.min(SPOTS, Math.max(Math.abs(floor), Math.abs(floor + 1)));
            made[0] = makeNought();
            for (int i = 1; i <= most; i++) {
                openHand();
                hand.put(away, made[i - 1]);
                made[i] = settle();
            }
            int low = made[Math.min(most, Math.abs(floor))];
            int high = made[Math.min(most, Math.abs(floor + 1))];
            return between(low, high, n - floor * parts, parts);
        }

        /** What stands rest / parts of the way from low to high, both being next to each other. */
        private int between(int low, int high, int rest, int parts) {
            if (rest == 0) {
                return low;
            }
            int from = 0;
            int to = parts;
            int lower = low;
            int upper = high;
            for (int width = parts; width > 1; width /= 2) {
                int middle = (from + to) / 2;
                int halfway = makePair(lower, upper);
                if (rest == middle) {
                    return halfway;
                }
                if (rest < middle) {
                    to = middle;
                    upper = halfway;
                } else {
                    from = middle;
                    lower = halfway;
                }
            }
            return lower;
        }

        int makeUps(int j, boolean star) {
            int near = j < 0 ? RIGHT : LEFT;
            int nothing = makeNought();
            int alone = makePair(nothing, nothing);
            int plain = nothing;
            int starred = alone;
            for (int i = 0; i < Math.abs(j); i++) {
                openHand();
                hand.put(near, nothing);
                hand.put(1 - near, starred);
                int next = settle();
                // The SUM of that and STAR; STAR in it meets another one, and both are NOUGHT.
                openHand();
                hand.put(near, alone);
                hand.put(near, next);
                hand.put(1 - near, plain);
                hand.put(1 - near, next);
                starred = settle();
                plain = next;
            }
            return star ? starred : plain;
        }

        int makeOf(Form[] spots, int leftSet, int rightSet) {
            makeNought();
            int many = Math.min(SPOTS, spots.length);
            for (int s = 0; s < many; s++) {
                if (((leftSet | rightSet) >> s & 1) != 0) {
                    roots[s] = bring(spots[s]);
                }
            }
            openHand();
            for (int s = 0; s < many; s++) {
                if ((leftSet >> s & 1) != 0) {
                    hand.put(LEFT, roots[s]);
                }
                if ((rightSet >> s & 1) != 0) {
                    hand.put(RIGHT, roots[s]);
                }
            }
            return settle();
        }

        private int bring(Form form) {
            int last = 0;
            for (int g = 0; g < form.size && g < SUBSETS; g++) {
                openHand();
                offerMade(form, g, LEFT, 1, 0);
                offerMade(form, g, RIGHT, 1, 0);
                last = settle();
                made[g] = last;
            }
            return last;
        }

        int makeSum(Form a, Form b) {
            int pairs = a.size * b.size;
            if (pairs < 1 || pairs > SUBSETS) {
                return makeNought();
            }
            count = 0;
            for (int g = 0; g < a.size; g++) {
                for (int h = 0; h < b.size; h++) {
                    openHand();
                    offerMade(a, g, LEFT, b.size, h);
                    offerMade(a, g, RIGHT, b.size, h);
                    offerMade(b, h, LEFT, 1, g * b.size);
                    offerMade(b, h, RIGHT, 1, g * b.size);
                    made[g * b.size + h] = settle();
                }
            }
            return made[pairs - 1];
        }

        /** Takes in hand what was made of each option o of a FOLLOWER, found at step * o + base. */
        private void offerMade(Form form, int g, int side, int step, int base) {
            Rows options = form.options(side);
            for (int o = options.next(g, 0); o < g; o = Math.max(o + 1, options.next(g, o + 1))) {
                int at = step * o + base;
                if (at >= 0 && at < SUBSETS) {
                    hand.put(side, made[at]);
                }
            }
        }

        /** A GAME as it is, or TURNED; nothing more can be made behind it. */
        int copy(Form form, boolean turned) {
            count = Math.min(form.size, ROOM);
            for (int g = 0; g < count; g++) {
                lefts.copy(g, form.options(turned ? RIGHT : LEFT), g);
                rights.copy(g, form.options(turned ? LEFT : RIGHT), g);
            }
            return count - 1;
        }

        private void openHand() {
            hand.clear(LEFT);
            hand.clear(RIGHT);
        }

        /** The GAME in hand, brought to LEAST FORM: its number in the workshop. */
        private int settle() {
            gatherBars(count);
            for (int x = 0; x < count; x++) {
                if (weigh(x, lefts, rights)) {
                    return x;
                }
            }
            if (count >= ROOM) {
                return 0;
            }
            bypass(LEFT, BELOW);
            bypass(RIGHT, ABOVE);
            strike(LEFT, above);
            strike(RIGHT, below);
            return append();
        }

        /** What one option alone rules out is the same for every GAME to be weighed against. */
        private void gatherBars(int bound) {
            for (int r = ABOVE; r < HAND_ROWS; r++) {
                hand.clear(r);
            }
            for (int o = hand.next(LEFT, 0); o < bound; o = Math.max(o + 1, hand.next(LEFT, o + 1))) {
                hand.join(NOT_ABOVE, below, o);
            }
            for (int o = hand.next(RIGHT, 0); o < bound; o = Math.max(o + 1, hand.next(RIGHT, o + 1))) {
                hand.join(NOT_BELOW, above, o);
            }
        }

        /**
         * Notes how the GAME in hand and x compare, for that tells how it compares to those that
         * have x as an option; the options of x have been weighed before. True if both are ALIKE.
         */
        private boolean weigh(int x, Rows xLefts, Rows xRights) {
            boolean atLeast = !hand.has(NOT_BELOW, x) && xLefts.common(x, hand, ABOVE, x) < 0;
            boolean atMost = !hand.has(NOT_ABOVE, x) && xRights.common(x, hand, BELOW, x) < 0;
            if (atLeast) {
                hand.put(BELOW, x);
            }
            if (atMost) {
                hand.put(ABOVE, x);
            }
            return atLeast && atMost;
        }

        /**
         * Options through which the other one would answer are replaced. What comes in stands ahead
         * of what goes out, so one pass backwards meets it too.
         */
        private void bypass(int side, int past) {
            Rows answers = options(1 - side);
            for (int o = count - 1; o >= 0; o--) {
                int answer = hand.has(side, o) ? answers.common(o, hand, past, o) : NONE;
                if (answer >= 0) {
                    hand.drop(side, o);
                    hand.join(side, options(side), answer);
                }
            }
        }

        private void strike(int side, Rows better) {
            for (int o = hand.next(side, 0); o < count; o = Math.max(o + 1, hand.next(side, o + 1))) {
                hand.drop(side, o);
                if (better.common(o, hand, side, count) < 0) {
                    hand.put(side, o);
                }
            }
        }

        private int append() {
            int g = count;
            lefts.copy(g, hand, LEFT);
            rights.copy(g, hand, RIGHT);
            above.copy(g, hand, ABOVE);
            below.copy(g, hand, BELOW);
            above.put(g, g);
            below.put(g, g);
            for (int x = hand.next(BELOW, 0); x < g; x = Math.max(x + 1, hand.next(BELOW, x + 1))) {
                above.put(x, g);
            }
            for (int x = hand.next(ABOVE, 0); x < g; x = Math.max(x + 1, hand.next(ABOVE, x + 1))) {
                below.put(x, g);
            }
            count = g + 1;
            return g;
        }

        /** 0 ALIKE, 1 a is AT LEAST b alone, 2 b is AT LEAST a alone, 3 neither. */
        int relation(Form a, Form b) {
            // Here the rows above and below are those of the GAMES of a, their bits GAMES of b.
            for (int g = 0; g < a.size; g++) {
                hand.copy(LEFT, a.lefts, g);
                hand.copy(RIGHT, a.rights, g);
                gatherBars(g);
                for (int x = 0; x < b.size; x++) {
                    weigh(x, b.lefts, b.rights);
                }
                above.copy(g, hand, ABOVE);
                below.copy(g, hand, BELOW);
            }
            boolean atLeast = below.has(a.size - 1, b.size - 1);
            boolean atMost = above.has(a.size - 1, b.size - 1);
            return (atLeast ? 0 : 2) + (atMost ? 0 : 1);
        }
    }

    /** Brings a GAME from the workshop into a spot, its FOLLOWERS in ORDER. */
    private static final class Keeper {
        private final boolean[] follows = new boolean[ROOM];
        private final int[] deeps = new int[ROOM];
        private final int[] ranks = new int[ROOM];
        private final int[] ids = new int[ROOM];

        void store(Workshop from, int root, Form to) {
            if (root < 0 || root >= ROOM) {
                return;
            }
            markFollowers(from, root);
            findDeeps(from, root);
            int placed = 0;
            // By DEEP, so that options are ranked before what has them is put in ORDER.
            for (int deep = 0; deep <= deeps[root]; deep++) {
                placed = placeLevel(from, root, deep, placed, to);
            }
            to.size = placed;
            to.deep = deeps[root];
        }

        private void markFollowers(Workshop from, int root) {
            for (int g = 0; g < root; g++) {
                follows[g] = false;
            }
            follows[root] = true;
            for (int g = root; g > 0; g--) {
                if (follows[g]) {
                    markOptions(from.lefts, g);
                    markOptions(from.rights, g);
                }
            }
        }

        private void markOptions(Rows options, int g) {
            for (int o = options.next(g, 0); o < g; o = Math.max(o + 1, options.next(g, o + 1))) {
                follows[o] = true;
            }
        }

        private void findDeeps(Workshop from, int root) {
            for (int g = 0; g <= root; g++) {
                if (follows[g]) {
                    deeps[g] = Math.max(deepBehind(from.lefts, g), deepBehind(from.rights, g));
                }
            }
        }

        private int deepBehind(Rows options, int g) {
            int deep = 0;
            for (int o = options.next(g, 0); o < g; o = Math.max(o + 1, options.next(g, o + 1))) {
                deep = Math.max(deep, deeps[o] + 1);
            }
            return deep;
        }

        private int placeLevel(Workshop from, int root, int deep, int start, Form to) {
            int placed = start;
            for (int g = 0; g <= root && placed < ROOM; g++) {
                if (follows[g] && deeps[g] == deep) {
                    ids[placed] = g;
                    rankRow(from.lefts, g, to.lefts, placed);
                    rankRow(from.rights, g, to.rights, placed);
                    sink(to, placed, start);
                    placed++;
                }
            }
            for (int p = start; p < placed; p++) {
                ranks[ids[p]] = p;
            }
            return placed;
        }

        private void rankRow(Rows from, int g, Rows to, int place) {
            to.clear(place);
            for (int o = from.next(g, 0); o < g; o = Math.max(o + 1, from.next(g, o + 1))) {
                to.put(place, ranks[o]);
            }
        }

        private void sink(Form to, int place, int start) {
            for (int p = place; p > start && order(to, p, p - 1) < 0; p--) {
                to.lefts.swap(p, p - 1);
                to.rights.swap(p, p - 1);
                int id = ids[p];
                ids[p] = ids[p - 1];
                ids[p - 1] = id;
            }
        }

        private static int order(Form form, int one, int other) {
            int byLefts = form.lefts.bitCount(one) - form.lefts.bitCount(other);
            if (byLefts != 0) {
                return byLefts;
            }
            int byRights = form.rights.bitCount(one) - form.rights.bitCount(other);
            if (byRights != 0) {
                return byRights;
            }
            int ahead = form.lefts.ahead(one, other);
            return ahead != 0 ? ahead : form.rights.ahead(one, other);
        }
    }

    /** Tells KIND, VALUE, STOPS and how many UPS, from NOUGHT on upwards. */
    private static final class Teller {
        /** VALUES are held as so many halvings of one: twenty are the most that can be made. */
        private static final int HALVINGS = 32;
        private static final long ONE = 1L << HALVINGS;

        /** UPS are held as twice j, one more with STAR. */
        private static final int STAR = 1;
        private static final int NO_UPS = Integer.MIN_VALUE;

        private final boolean[] isNumber = new boolean[ROOM];
        private final long[] leftStops = new long[ROOM];
        private final long[] rightStops = new long[ROOM];
        private final int[] upCodes = new int[ROOM];

        int kindOf(Form form) {
            findStops(form);
            int root = form.size - 1;
            if (root < 0 || root >= ROOM || isNumber[root]) {
                return 1;
            }
            if (isSwitch(form, root)) {
                return 2;
            }
            findUps(form);
            return upCodes[root] != NO_UPS ? 3 : 0;
        }

        private boolean isSwitch(Form form, int root) {
            int left = onlyOption(form.lefts, root);
            int right = onlyOption(form.rights, root);
            return left >= 0 && right >= 0 && isNumber[left] && isNumber[right]
                && leftStops[left] > leftStops[right];
        }

        /** Below 0 if there is none or more than one. */
        private static int onlyOption(Rows options, int g) {
            return options.bitCount(g) == 1 ? options.bitAt(g, 0) : NONE;
        }

        int stopOf(Form form, int side, int what) {
            findStops(form);
            int root = form.size - 1;
            if (root < 0 || root >= ROOM) {
                return 0;
            }
            long n = side == LEFT ? leftStops[root] : rightStops[root];
            int k = HALVINGS;
            for (int i = 0; i < HALVINGS && (n & 1L) == 0L; i++) {
                n >>= 1;
                k--;
            }
            return what == 0 ? (int) n : k;
        }

        private void findStops(Form form) {
            for (int g = 0; g < form.size && g < ROOM; g++) {
                isNumber[g] = findNumber(form, g);
                if (!isNumber[g]) {
                    leftStops[g] = greatestRightStop(form.lefts, g);
                    rightStops[g] = leastLeftStop(form.rights, g);
                }
            }
        }

        /** Whether it is a NUMBER; if so, its VALUE is put down as both its STOPS. */
        private boolean findNumber(Form form, int g) {
            int left = onlyOption(form.lefts, g);
            int right = onlyOption(form.rights, g);
            boolean noLeft = form.lefts.bitCount(g) == 0;
            boolean noRight = form.rights.bitCount(g) == 0;
            boolean leftFits = noLeft || left >= 0 && isNumber[left];
            boolean rightFits = noRight || right >= 0 && isNumber[right];
            if (!leftFits || !rightFits) {
                return false;
            }
            if (!noLeft && !noRight && leftStops[left] >= leftStops[right]) {
                return false;
            }
            long exact = 0L;
            if (!noLeft && !noRight) {
                exact = leftStops[left] + leftStops[right] >> 1;
            } else if (!noLeft) {
                exact = leftStops[left] + ONE;
            } else if (!noRight) {
                exact = leftStops[right] - ONE;
            }
            leftStops[g] = exact;
            rightStops[g] = exact;
            return true;
        }

        private long greatestRightStop(Rows options, int g) {
            long greatest = Long.MIN_VALUE;
            for (int o = options.next(g, 0); o < g; o = Math.max(o + 1, options.next(g, o + 1))) {
                greatest = Math.max(greatest, rightStops[o]);
            }
            return greatest;
        }

        private long leastLeftStop(Rows options, int g) {
            long least = Long.MAX_VALUE;
            for (int o = options.next(g, 0); o < g; o = Math.max(o + 1, options.next(g, o + 1))) {
                least = Math.min(least, leftStops[o]);
            }
            return least;
        }

        int upsOf(Form form, int what) {
            findUps(form);
            int root = form.size - 1;
            if (root < 0 || root >= ROOM) {
                return 0;
            }
            int code = upCodes[root];
            return what == 0 ? Math.floorDiv(code, 2) : Math.floorMod(code, 2);
        }

        private void findUps(Form form) {
            upCodes[0] = 0;
            for (int g = 1; g < form.size && g < ROOM; g++) {
                int code = upCode(form, g, LEFT);
                upCodes[g] = code != NO_UPS ? code : turnedCode(upCode(form, g, RIGHT));
            }
        }

        /** TURNED, j changes its sign and STAR stays as it is. */
        private static int turnedCode(int code) {
            return code == NO_UPS ? NO_UPS : 2 * Math.floorMod(code, 2) - code;
        }

        /**
         * The code of a GAME as seen by one side: STAR, or j times UP with j above 0. In LEAST FORM
         * these have NOUGHT on the near side and one UP less on the far one, with STAR if they have
         * none; only UP with STAR has STAR on the near side too.
         */
        private int upCode(Form form, int g, int near) {
            Rows nears = form.options(near);
            int far = onlyOption(form.options(1 - near), g);
            if (far < 0 || !nears.has(g, 0) || upCodes[far] == NO_UPS) {
                return NO_UPS;
            }
            if (nears.bitCount(g) == 1) {
                int less = near == LEFT ? upCodes[far] : turnedCode(upCodes[far]);
                return less == 0 ? STAR : withOneUpMore(less);
            }
            int second = nears.bitAt(g, 1);
            boolean isPair = far == 0 && nears.bitCount(g) == 2 && second >= 0;
            return isPair && upCodes[second] == STAR ? 2 + STAR : NO_UPS;
        }

        private static int withOneUpMore(int less) {
            return less < 0 ? NO_UPS : less + 3 - 2 * Math.floorMod(less, 2);
        }
    }
}
