import java.util.ArrayList;
import java.util.Arrays;
import java.util.List;

/**
 * Each sentence of the document that names a boundary, by a test of its own: the last value that is
 * allowed, the first that is not, and that nothing has changed behind a call that is refused.
 */
public final class Boundaries {
    private static final int NUMBER = -1;
    private static final int KIND = -2;
    private static final int LARGE = -3;
    private static final int NONE = -4;
    private static final int NOT_TOLD = -1000000;

    private static String sentence = "";
    private static int sentences = 0;
    private static int wrong = 0;

    /** Calls that bring a new bench to where a test begins. */
    private interface Setting {
        void on(PlankBench x);
    }

    /** A call with one argument left open. */
    private interface Asked {
        int of(PlankBench x, int value);
    }

    private static void says(String where, String what) {
        sentence = where + ": " + what;
        sentences++;
    }

    private static void fault(String what) {
        wrong++;
        System.out.println(sentence + ": " + what);
    }

    private static void due(String call, int got, int want) {
        if (got != want) fault(call + " answered " + got + ", due is " + want);
    }

    private static void due(String call, boolean got, boolean want) {
        due(call, got ? 1 : 0, want ? 1 : 0);
    }

    // ---- what is refused

    /** Numbers next to low .. high, and some that would pass if only their last bits were looked at. */
    private static int[] outside(int low, int high) {
        int[] some = {
            low - 1, high + 1, high + 2, low - 16, low + 16, low + 32, low + 64, low + 1024, low + 65536,
            Integer.MIN_VALUE, Integer.MAX_VALUE, Integer.MIN_VALUE + high,
        };
        return Arrays.stream(some).filter(v -> v < low || v > high).toArray();
    }

    private static void refused(int want, int[] values, String call, Asked asked) {
        refused(Boundaries::busy, want, values, call, asked);
    }

    /** Each of these is refused, and the bench shows behind it what one shows that was not asked. */
    private static void refused(Setting setting, int want, int[] values, String call, Asked asked) {
        List<Integer> untouched = seen(benchIn(setting));
        for (int value : values) {
            String text = call.replace("?", Integer.toString(value));
            PlankBench x = benchIn(setting);
            due(text, asked.of(x, value), want);
            if (!seen(x).equals(untouched)) fault(text + " was refused, but has changed the bench");
        }
    }

    private static void refused(Setting setting, int want, String call, Asked asked) {
        refused(setting, want, new int[] {0}, call, asked);
    }

    private static PlankBench benchIn(Setting setting) {
        PlankBench x = new PlankBench();
        setting.on(x);
        return x;
    }

    /** All that can be seen of a bench, planks being lifted for it at the end: at most 306 calls. */
    private static List<Integer> seen(PlankBench x) {
        List<Integer> seen = new ArrayList<>();
        for (int b = 0; b < 6; b++) seen.add(mask(x, b));
        for (int a = 0; a < 10; a++) {
            for (int what = 0; what < 5; what++) seen.add(x.told(a, what));
            for (int what = 0; what < 2; what++) {
                seen.add(x.value(a, what));
                seen.add(x.ups(a, what));
                seen.add(x.stop(a, 0, what));
                seen.add(x.stop(a, 1, what));
            }
            seen.add(x.wins(a));
            seen.add(x.compare(a, (a + 1) % 10));
        }
        for (int b = 0; b < 6; b++) {
            int field = 0;
            for (int i = 0; i < 9 && field >= 0; i++) {
                field = x.lift(b);
                seen.add(field);
            }
        }
        return seen;
    }

    // ---- settings

    private static void board(PlankBench x, int b, int r0, int r1, int r2, int r3) {
        x.row(b, 0, r0);
        x.row(b, 1, r1);
        x.row(b, 2, r2);
        x.row(b, 3, r3);
    }

    private static void fill(PlankBench x, int b) {
        board(x, b, 15, 15, 15, 15);
    }

    private static int mask(PlankBench x, int b) {
        int mask = 0;
        for (int f = 0; f < 16; f++) mask |= (x.field(b, f) ? 1 : 0) << f;
        return mask;
    }

    /** A bench in the midst of work: FREE fields and planks of many kinds, unlike GAMES in the SPOTS. */
    private static void busy(PlankBench x) {
        fill(x, 0);
        x.lay(0, 0, 0);
        x.lay(0, 2, 1);
        x.lay(0, 14, 0);
        x.row(1, 0, 3);
        x.row(1, 1, 3);
        board(x, 2, 5, 10, 5, 10);
        x.row(3, 0, 15);
        x.lay(3, 1, 0);
        x.row(5, 2, 8);
        x.row(5, 3, 12);
        x.lay(5, 11, 1);
        x.number(1, 1, 0);
        x.number(-3, 0, 1);
        x.up(1, false, 2);
        x.up(0, true, 3);
        x.up(-2, true, 4);
        x.worth(1, 5);
        x.number(8, 0, 8);
        x.game(1 << 8, 1 << 1, 6);
        x.game(1 << 3 | 1 << 7, 1 << 3 | 1 << 7, 9);
    }

    private static void pair(PlankBench x, int left, int right, int to) {
        x.number(left, 0, 8);
        x.number(right, 0, 9);
        x.game(1 << 8, 1 << 9, to);
    }

    /** The whole number n, 0 .. 150, added up in SPOT to; SPOT 9 is used for it, at most 70 calls. */
    private static void whole(PlankBench x, int n, int to) {
        x.number(0, 0, to);
        for (int sum = 0; sum < n; ) {
            int next = Math.min(Math.min(8, n - sum), 300 / (sum + 1) - 1);
            x.number(next, 0, 9);
            x.add(to, 9, to);
            sum += next;
        }
    }

    /** j times UP, 0 .. 99, added up in SPOT to, of SIZE j + 2; SPOT 9 is used for it, at most 100 calls. */
    private static void manyUps(PlankBench x, int j, int to) {
        x.number(0, 0, to);
        for (int sum = 0; sum < j; ) {
            int next = Math.min(Math.min(6, j - sum), 300 / (sum + 2) - 2);
            x.up(next, false, 9);
            x.add(to, 9, to);
            sum += next;
        }
    }

    private static final int[][] ONE_GROWTH = {{1, 3}, {1, 2}, {3, 3}, {1, 0}, {3, 1}, {2, 0}};
    private static final int[][] OTHER_GROWTH = {{1, 3}, {3, 3}, {1, 1}, {3, 2}, {7, 2}, {2, 0}};

    /**
     * From 3 and STAR on, {G + n / 2^k | G} of the G before: SIZE 150, 19 DEEP, and no FOLLOWER but
     * NOUGHT has its TURNED one among them. Found by search; AgainstPlainModel makes it too. 20 calls.
     */
    private static void half(PlankBench x, int[][] growth, int to) {
        x.number(3, 0, 9);
        x.game(1 << 9, 1 << 9, to);
        for (int[] step : growth) {
            x.number(step[0], step[1], 9);
            x.add(to, 9, 9);
            x.game(1 << 9, 1 << to, to);
        }
    }

    /** The GAME of a half and the half TURNED: SIZE 300, 20 DEEP, as large as any can be. */
    private static void full(PlankBench x, int[][] growth, int to) {
        half(x, growth, to);
        x.turn(to, 9);
        x.game(1 << to, 1 << 9, to);
    }

    private static void told(PlankBench x, int a, int size, int deep, int lefts, int rights, int kind) {
        int[] want = {size, deep, lefts, rights, kind};
        for (int what = 0; what < 5; what++) due("told(" + a + ", " + what + ")", x.told(a, what), want[what]);
    }

    private static void isNumber(PlankBench x, int a, int n, int k) {
        due("told(" + a + ", 4)", x.told(a, 4), 1);
        due("value(" + a + ", 0)", x.value(a, 0), n);
        due("value(" + a + ", 1)", x.value(a, 1), k);
    }

    private static void isUps(PlankBench x, int a, int j, int star) {
        due("told(" + a + ", 4)", x.told(a, 4), 3);
        due("ups(" + a + ", 0)", x.ups(a, 0), j);
        due("ups(" + a + ", 1)", x.ups(a, 1), star);
    }

    /** The STOPS in quarters. */
    private static void stops(PlankBench x, int a, int left, int right) {
        due("LEFT STOP of " + a, x.stop(a, 0, 0) << 2 - x.stop(a, 0, 1), left);
        due("RIGHT STOP of " + a, x.stop(a, 1, 0) << 2 - x.stop(a, 1, 1), right);
    }

    // ---- the use of an object

    private static void use() {
        says("What it is", "at most 512 calls after it has been made: planks laid and lifted");
        PlankBench x = new PlankBench();
        fill(x, 0);
        for (int call = 5; call <= 510; call += 2) {
            due("lay, call " + call, x.lay(0, call % 3, 0), 1);
            due("lift, call " + (call + 1), x.lift(0), call % 3);
        }
        due("lay, call 511", x.lay(0, 14, 0), 1);
        due("lift, call 512", x.lift(0), 14);

        says("What it is", "at most 512 calls after it has been made: GAMES made");
        x = new PlankBench();
        full(x, ONE_GROWTH, 0);
        for (int call = 23; call <= 510; call += 2) {
            due("add, call " + call, x.add(0, 1, 0), 300);
            due("turn, call " + (call + 1), x.turn(0, 0), 300);
        }
        due("compare, call 511", x.compare(0, 0), 0);
        due("told, call 512", x.told(0, 1), 20);

        says("What it is", "at most 512 calls after it has been made: refused ones count, and change nothing");
        x = new PlankBench();
        x.row(0, 0, 15);
        x.lay(0, 2, 0);
        for (int call = 3; call <= 510; call += 4) {
            due("lay, call " + call, x.lay(0, 0, 1), KIND);
            due("row, call " + (call + 1), x.row(0, 0, 16), NUMBER);
            due("option, call " + (call + 2), x.option(0, 0, 0, 1), NONE);
            due("lift, call " + (call + 3), x.lift(6), NUMBER);
        }
        due("lift, call 511", x.lift(0), 2);
        due("fields, call 512", x.fields(0), 4);

        says("What it is", "what one object is told another one does not know");
        PlankBench y = new PlankBench();
        busy(new PlankBench());
        for (int b = 0; b < 6; b++) due("fields(" + b + ")", y.fields(b), 0);
        for (int a = 0; a < 10; a++) due("told(" + a + ", 0)", y.told(a, 0), 1);
    }

    // ---- Terms 1

    private static void termsOfBoards() {
        says("Terms 1", "BOARDS are 0 .. 5");
        PlankBench x = new PlankBench();
        for (int b = 0; b < 6; b++) x.row(b, b % 4, b + 1);
        for (int b = 0; b < 6; b++) due("mask of " + b, mask(x, b), b + 1 << 4 * (b % 4));

        says("Terms 1", "each has 16 FIELDS, numbered row by row, four in a row");
        x = new PlankBench();
        for (int f = 0; f < 16; f++) {
            x.row(0, f / 4, 1 << f % 4);
            due("field(0, " + f + ")", x.field(0, f), true);
            due("fields(0)", x.fields(0), 1);
            x.row(0, f / 4, 0);
        }

        says("Terms 1", "(none is at first)");
        x = new PlankBench();
        for (int b = 0; b < 6; b++) due("mask of " + b, mask(x, b), 0);

        says("Terms 1", "a plank of ALONG covers two FREE fields side by side in a row, f and f + 1");
        x = new PlankBench();
        board(x, 0, 8, 1, 0, 0);
        due("lay(0, 3, 0), over the row's end", x.lay(0, 3, 0), KIND);
        due("moves(0, 0), over the row's end", x.moves(0, 0), 0);
        board(x, 0, 5, 0, 0, 0);
        due("lay(0, 0, 0), one between", x.lay(0, 0, 0), KIND);
        due("moves(0, 0), one between", x.moves(0, 0), 0);
        board(x, 0, 12, 3, 0, 0);
        due("moves(0, 0), the last and the first place of a row", x.moves(0, 0), 2);
        due("lay(0, 2, 0)", x.lay(0, 2, 0), 1);
        due("lay(0, 4, 0)", x.lay(0, 4, 0), 2);

        says("Terms 1", "one of ACROSS two in a column, f and f + 4");
        x = new PlankBench();
        board(x, 0, 0, 0, 0, 15);
        board(x, 1, 15, 0, 0, 0);
        for (int f = 12; f < 16; f++) due("lay(0, " + f + ", 1), below the last row", x.lay(0, f, 1), KIND);
        due("moves(0, 1)", x.moves(0, 1), 0);
        board(x, 0, 1, 0, 1, 0);
        due("lay(0, 0, 1), one between", x.lay(0, 0, 1), KIND);
        board(x, 0, 1, 2, 0, 0);
        due("lay(0, 0, 1), by corners", x.lay(0, 0, 1), KIND);
        board(x, 0, 0, 0, 8, 8);
        due("lay(0, 11, 1)", x.lay(0, 11, 1), 1);

        says("Terms 1", "what it covers is FREE no more");
        x = new PlankBench();
        fill(x, 0);
        x.lay(0, 2, 0);
        due("mask", mask(x, 0), 0xFFF3);
        x.lay(0, 11, 1);
        due("mask", mask(x, 0), 0x77F3);

        says("Terms 1", "who can't lay loses");
        x = new PlankBench();
        due("beginner(1, 0), no FREE field", x.beginner(1, 0), 0);
        due("beginner(1, 1), no FREE field", x.beginner(1, 1), 0);
        x.row(0, 0, 3);
        due("beginner(1, 0), a last plank", x.beginner(1, 0), 1);
        due("beginner(1, 1), the other one's plank", x.beginner(1, 1), 0);

        says("Terms 1", "PARTS of a board: FREE fields hang together by sides");
        x = new PlankBench();
        board(x, 0, 1, 2, 0, 0);
        due("parts(0), by corners", x.parts(0), 2);
        board(x, 0, 2, 1, 0, 0);
        due("parts(0), by the other corners", x.parts(0), 2);
        board(x, 0, 8, 1, 8, 1);
        due("parts(0), over the rows' ends", x.parts(0), 4);
        board(x, 0, 1, 0, 0, 1);
        due("parts(0), the first and the last row", x.parts(0), 2);
        board(x, 0, 15, 8, 15, 1);
        due("parts(0), a long snake", x.parts(0), 1);
        board(x, 0, 11, 10, 10, 14);
        due("parts(0), joined from below", x.parts(0), 1);
        board(x, 0, 13, 5, 5, 7);
        due("parts(0), joined to the left from below", x.parts(0), 1);
        board(x, 0, 8, 8, 12, 6);
        due("parts(0), stairs to the left", x.parts(0), 1);
        board(x, 0, 1, 3, 2, 14);
        due("parts(0), stairs to the right", x.parts(0), 1);
    }

    // ---- Terms 2

    private static void termsOfGames() {
        says("Terms 2", "what has neither is NOUGHT");
        PlankBench x = new PlankBench();
        x.number(1, 0, 0);
        due("game(0, 0, 0)", x.game(0, 0, 0), 1);
        told(x, 0, 1, 0, 0, 0, 1);

        says("Terms 2", "G is AT LEAST H if no RIGHT one of G is such that H is AT LEAST it");
        x = new PlankBench();
        pair(x, 1, 0, 0);
        due("{1 | 0} and NOUGHT, which is AT LEAST its RIGHT one", x.compare(0, 1), 3);
        x.number(1, 3, 9);
        x.game(1 << 8, 1 << 9, 0);
        due("{1 | 1 / 8} and NOUGHT, which is not", x.compare(0, 1), 1);

        says("Terms 2", "and no LEFT one of H is AT LEAST G");
        x = new PlankBench();
        pair(x, 0, -1, 0);
        due("NOUGHT and {0 | -1}, whose LEFT one is AT LEAST it", x.compare(1, 0), 3);
        x.number(-1, 3, 8);
        x.game(1 << 8, 1 << 9, 0);
        due("NOUGHT and {-1 / 8 | -1}, whose LEFT one is not", x.compare(1, 0), 1);
        due("the other way", x.compare(0, 1), 2);

        says("Terms 2", "ALIKE if each is AT LEAST the other");
        x = new PlankBench();
        x.number(1, 0, 0);
        x.number(2, 1, 1);
        due("compare(0, 1)", x.compare(0, 1), 0);
        due("compare(2, 2)", x.compare(2, 2), 0);

        says("Terms 2", "the SUM of G and H, one of which has neither LEFT nor RIGHT ones");
        x = new PlankBench();
        due("NOUGHT and NOUGHT", x.add(0, 1, 2), 1);
        pair(x, 2, -1, 0);
        due("{2 | -1} and NOUGHT", x.add(0, 1, 2), 5);
        due("NOUGHT and {2 | -1}", x.add(1, 0, 3), 5);
        due("compare(0, 2)", x.compare(0, 2), 0);
        due("compare(0, 3)", x.compare(0, 3), 0);

        says("Terms 2", "G TURNED, with LEFT ones alone, RIGHT ones alone, as many of both");
        x = new PlankBench();
        x.number(3, 0, 0);
        x.turn(0, 1);
        told(x, 1, 4, 3, 0, 1, 1);
        x.turn(1, 1);
        told(x, 1, 4, 3, 1, 0, 1);
        x.up(0, true, 2);
        x.turn(2, 3);
        due("STAR TURNED", x.compare(2, 3), 0);

        leastForms();
        sizesAndDeeps();
        orders();

        says("Terms 2", "a board's GAME: without planks, of ALONG alone, of ACROSS alone");
        x = new PlankBench();
        board(x, 0, 5, 10, 5, 10);
        due("worth, no plank", x.worth(0, 0), 1);
        board(x, 0, 15, 0, 15, 0);
        due("worth, four planks of ALONG", x.worth(0, 0), 5);
        isNumber(x, 0, 4, 0);
        x.quarter(0, 1);
        due("worth, four planks of ACROSS", x.worth(1, 0), 5);
        isNumber(x, 0, -4, 0);
    }

    private static void leastForms() {
        says("Terms 2", "no LEFT one is AT LEAST another LEFT one (else that other one is left out)");
        PlankBench x = new PlankBench();
        x.number(1, 0, 1);
        x.number(1, 0, 2);
        x.up(0, true, 3);
        due("two ALIKE LEFT ones", x.game(1 << 1 | 1 << 2, 1 << 1, 4), 3);
        told(x, 4, 3, 2, 1, 1, 0);
        due("1, NOUGHT and STAR to the left", x.game(1 << 0 | 1 << 1 | 1 << 3, 1 << 1, 4), 3);
        told(x, 4, 3, 2, 1, 1, 0);
        due("NOUGHT and STAR, neither of which is AT LEAST the other", x.game(1 << 0 | 1 << 3, 1 << 0, 4), 3);
        told(x, 4, 3, 2, 2, 1, 3);

        says("Terms 2", "no RIGHT one is such that another RIGHT one is AT LEAST it (else that other one is left out)");
        x.number(-1, 0, 1);
        x.number(-1, 0, 2);
        due("two ALIKE RIGHT ones", x.game(1 << 1, 1 << 1 | 1 << 2, 4), 3);
        told(x, 4, 3, 2, 1, 1, 0);
        due("-1, NOUGHT and STAR to the right", x.game(1 << 1, 1 << 0 | 1 << 1 | 1 << 3, 4), 3);
        told(x, 4, 3, 2, 1, 1, 0);
        due("NOUGHT and STAR, neither of which is AT LEAST the other", x.game(1 << 0, 1 << 0 | 1 << 3, 4), 3);
        told(x, 4, 3, 2, 1, 2, 3);

        says("Terms 2", "no LEFT one has a RIGHT one that G is AT LEAST (else it is replaced by the LEFT ones of that)");
        x = new PlankBench();
        x.up(0, true, 1);
        x.up(1, false, 2);
        x.number(-1, 0, 3);
        due("{STAR | } is ALIKE to NOUGHT, STAR's RIGHT one", x.game(1 << 1, 0, 4), 1);
        // {UP | -1} is not AT LEAST STAR, the RIGHT one of UP; {UP | NOUGHT} is, so NOUGHT replaces UP.
        due("{UP | -1}", x.game(1 << 2, 1 << 3, 4), 5);
        told(x, 4, 5, 3, 1, 1, 0);
        due("{UP | NOUGHT}", x.game(1 << 2, 1 << 0, 4), 2);
        isUps(x, 4, 0, 1);

        says("Terms 2", "no RIGHT one has a LEFT one that is AT LEAST G (else it is replaced by the RIGHT ones of that)");
        x = new PlankBench();
        x.up(0, true, 1);
        x.up(-1, false, 2);
        x.number(1, 0, 3);
        due("{ | STAR} is ALIKE to NOUGHT, STAR's LEFT one", x.game(0, 1 << 1, 4), 1);
        due("{1 | UP TURNED}", x.game(1 << 3, 1 << 2, 4), 5);
        told(x, 4, 5, 3, 1, 1, 0);
        due("{NOUGHT | UP TURNED}", x.game(1 << 0, 1 << 2, 4), 2);
        isUps(x, 4, 0, 1);
    }

    private static void sizesAndDeeps() {
        says("Terms 2", "SIZE is how many (unlike ones) it has");
        PlankBench x = new PlankBench();
        due("NOUGHT", x.told(0, 0), 1);
        x.up(0, true, 1);
        due("STAR, NOUGHT on both sides", x.told(1, 0), 2);
        pair(x, 3, 2, 2);
        due("{3 | 2}, whose RIGHT one follows its LEFT one too", x.told(2, 0), 5);
        pair(x, 3, -2, 2);
        due("{3 | -2}, which have NOUGHT alone in common", x.told(2, 0), 7);
        full(x, ONE_GROWTH, 3);
        due("the largest", x.told(3, 0), 300);
        x.option(3, 0, 0, 4);
        due("its LEFT one", x.told(4, 0), 150);

        says("Terms 2", "DEEP: 0 of NOUGHT, else one more than the greatest of its LEFT and RIGHT ones");
        due("NOUGHT", x.told(0, 1), 0);
        due("STAR", x.told(1, 1), 1);
        pair(x, 5, -2, 2);
        due("{5 | -2}", x.told(2, 1), 6);
        pair(x, 2, -5, 2);
        due("{2 | -5}", x.told(2, 1), 6);
        x = new PlankBench();
        whole(x, 150, 0);
        due("150", x.told(0, 1), 150);
        x.turn(0, 0);
        due("-150", x.told(0, 1), 150);
    }

    /**
     * Two GAMES of which neither is AT LEAST the other, as LEFT ones beside the RIGHT one -8, or as
     * RIGHT ones beside the LEFT one 8, so that both stay; each in the first and in the second SPOT.
     */
    private static void order(String by, Setting ahead, Setting behind) {
        says("Terms 2", "ORDER of GAMES: " + by);
        for (int place = 0; place < 2; place++) {
            for (int side = 0; side < 2; side++) {
                PlankBench x = new PlankBench();
                ahead.on(x);
                x.add(5, 0, 1 + place);
                behind.on(x);
                x.add(5, 0, 2 - place);
                due("neither is AT LEAST the other", x.compare(1, 2), 3);
                x.number(side == 0 ? -8 : 8, 0, 3);
                x.game(side == 0 ? 6 : 8, side == 0 ? 8 : 6, 4);
                due("how many there are", x.told(4, 2 + side), 2);
                x.option(4, side, 0, 5);
                x.option(4, side, 1, 6);
                due("the first one is the one ahead", x.compare(5, 1 + place), 0);
                due("the second one is the one behind", x.compare(6, 2 - place), 0);
            }
        }
    }

    /** {3, {4 | low} | right} into SPOT 5: of 3 and {4 | low} neither is AT LEAST the other. */
    private static void twoLefts(PlankBench x, int low, int right) {
        pair(x, 4, low, 7);
        x.number(3, 0, 8);
        x.number(right, 0, 9);
        x.game(1 << 7 | 1 << 8, 1 << 9, 5);
    }

    /** {left | -3, {0 | -4}} into SPOT 5. */
    private static void twoRights(PlankBench x, int left) {
        pair(x, 0, -4, 7);
        x.number(-3, 0, 8);
        x.number(left, 0, 9);
        x.game(1 << 9, 1 << 7 | 1 << 8, 5);
    }

    /** {5 | {0 | -4}} into SPOT 5. */
    private static void lateRight(PlankBench x) {
        pair(x, 0, -4, 7);
        x.number(5, 0, 9);
        x.game(1 << 9, 1 << 7, 5);
    }

    /** {4 | -7 / 2} into SPOT 5. */
    private static void halves(PlankBench x) {
        x.number(4, 0, 8);
        x.number(-7, 1, 9);
        x.game(1 << 8, 1 << 9, 5);
    }

    private static void orders() {
        order("by DEEP, though it has more LEFT ones", x -> twoLefts(x, 0, 0), x -> pair(x, 6, -6, 5));
        order("of one DEEP by how many LEFT ones, though 3 is ahead of 5", x -> pair(x, 5, -1, 5), x -> twoLefts(x, 0, 0));
        order("then by how many RIGHT ones, though 4 is ahead of 5", x -> pair(x, 5, -5, 5), x -> twoRights(x, 4));
        order("then by the LEFT ones, though -5 is ahead of -7 / 2", Boundaries::halves, x -> pair(x, 5, -5, 5));
        order("at the first place in which these are unlike, though -2 is ahead of -5",
            x -> twoLefts(x, 0, -5), x -> twoLefts(x, -1, -2));
        order("then by the RIGHT ones likewise", x -> pair(x, 5, -3, 5), Boundaries::lateRight);
    }

    // ---- Terms 3 and 4

    private static void termsOfKinds() {
        says("Terms 3", "a NUMBER: no LEFT one being AT LEAST a RIGHT one");
        PlankBench x = new PlankBench();
        pair(x, 0, 1, 0);
        due("{0 | 1}", x.told(0, 4), 1);
        pair(x, 1, 1, 0);
        due("{1 | 1}", x.told(0, 4), 0);
        pair(x, 1, 0, 0);
        due("{1 | 0}", x.told(0, 4), 2);
        // 0 and 1 / 8 are as near as number() makes them, and there is yet a NUMBER between.
        x.number(1, 3, 9);
        x.game(1 << 1, 1 << 9, 0);
        due("{0 | 1 / 8}", x.told(0, 4), 1);
        x.game(1 << 9, 1 << 1, 0);
        due("{1 / 8 | 0}", x.told(0, 4), 2);

        says("Terms 3", "its VALUE: of NOUGHT 0");
        isNumber(new PlankBench(), 9, 0, 0);

        says("Terms 3", "without RIGHT ones one more than the VALUE of its LEFT one; without LEFT ones one less");
        x = new PlankBench();
        x.game(1 << 1, 0, 0);
        isNumber(x, 0, 1, 0);
        x.game(0, 1 << 1, 0);
        isNumber(x, 0, -1, 0);
        whole(x, 150, 0);
        isNumber(x, 0, 150, 0);
        x.turn(0, 0);
        isNumber(x, 0, -150, 0);

        says("Terms 3", "else the middle of both");
        x = new PlankBench();
        pair(x, 7, 8, 0);
        isNumber(x, 0, 15, 1);
        pair(x, -8, -7, 0);
        isNumber(x, 0, -15, 1);
        x.number(1, 0, 0);
        for (int k = 1; k <= 20; k++) x.game(1 << 1, 1 << 0, 0);
        isNumber(x, 0, 1, 20);
        x.turn(0, 0);
        isNumber(x, 0, -1, 20);

        says("Terms 3", "a VALUE is told as n / 2^k, k as small as can be");
        x = new PlankBench();
        x.number(0, 3, 0);
        isNumber(x, 0, 0, 0);
        x.number(8, 3, 0);
        isNumber(x, 0, 1, 0);
        x.number(-4, 3, 0);
        isNumber(x, 0, -1, 1);
        x.number(-6, 3, 0);
        isNumber(x, 0, -3, 2);
        x.number(7, 3, 0);
        isNumber(x, 0, 7, 3);

        kindsOfSwitchesAndUps();

        says("Terms 3", "STOPS: of a NUMBER both are its VALUE");
        x = new PlankBench();
        stops(x, 0, 0, 0);
        x.number(-3, 2, 0);
        stops(x, 0, -3, -3);

        says("Terms 3", "the LEFT STOP is the greatest of the RIGHT STOPS of its LEFT ones");
        twoLefts(x, 0, -5);
        stops(x, 5, 12, -20);
        x.up(0, true, 0);
        stops(x, 0, 0, 0);

        pair(x, 5, -1, 1);
        twoLefts(x, 0, 0);
        x.number(-8, 0, 9);
        x.game(1 << 1 | 1 << 5, 1 << 9, 6);
        due("two of one DEEP", x.told(6, 2), 2);
        stops(x, 6, 0, -32);

        says("Terms 3", "the RIGHT STOP the least of the LEFT STOPS of its RIGHT ones");
        x.number(8, 0, 9);
        x.game(1 << 9, 1 << 1 | 1 << 5, 6);
        due("two of one DEEP", x.told(6, 3), 2);
        stops(x, 6, 32, 12);
        twoRights(x, 4);
        stops(x, 5, 16, -12);

        says("Terms 4", "SPOTS are 0 .. 9");
        x = new PlankBench();
        for (int a = 0; a < 10; a++) due("number into " + a, x.number(a - 4, 0, a), Math.abs(a - 4) + 1);
        for (int a = 0; a < 10; a++) isNumber(x, a, a - 4, 0);

        says("Terms 4", "each has a GAME (NOUGHT at first)");
        x = new PlankBench();
        for (int a = 0; a < 10; a++) told(x, a, 1, 0, 0, 0, 1);

        says("Terms", "(answers below 0, where not told otherwise): what is below 0 and is no refusal");
        x = new PlankBench();
        x.number(-1, 0, 0);
        due("value(0, 0)", x.value(0, 0), -1);
        due("stop(0, 1, 0)", x.stop(0, 1, 0), -1);
        x.up(-4, false, 0);
        due("ups(0, 0)", x.ups(0, 0), -4);
    }

    private static void kindsOfSwitchesAndUps() {
        says("Terms 3", "SWITCH: one LEFT one and one RIGHT one");
        PlankBench x = new PlankBench();
        twoLefts(x, 0, -5);
        due("two LEFT ones", x.told(5, 4), 0);
        twoRights(x, 4);
        due("two RIGHT ones", x.told(5, 4), 0);
        pair(x, 3, -5, 5);
        due("{3 | -5}", x.told(5, 4), 2);

        says("Terms 3", "SWITCH: both NUMBERS");
        x = new PlankBench();
        x.up(0, true, 1);
        x.number(1, 0, 2);
        x.number(-1, 0, 3);
        x.game(1 << 2, 1 << 1, 4);
        told(x, 4, 4, 2, 1, 1, 0);
        x.game(1 << 1, 1 << 3, 4);
        told(x, 4, 4, 2, 1, 1, 0);
        x.game(1 << 2, 1 << 3, 4);
        told(x, 4, 4, 2, 1, 1, 2);

        says("Terms 3", "SWITCH: the VALUE of the LEFT one being greater");
        x = new PlankBench();
        x.number(8, 0, 1);
        x.number(63, 3, 2);
        x.game(1 << 1, 1 << 2, 3);
        due("{8 | 63 / 8}", x.told(3, 4), 2);
        pair(x, 0, -1, 3);
        due("{0 | -1}", x.told(3, 4), 2);
        pair(x, 1, 0, 3);
        due("{1 | 0}", x.told(3, 4), 2);
        x.number(8, 0, 1);
        x.game(1 << 1, 1 << 1, 3);
        due("{8 | 8}", x.told(3, 4), 0);
        x.game(1 << 2, 1 << 1, 3);
        due("{63 / 8 | 8}", x.told(3, 4), 1);

        says("Terms 3", "UP: j times UP, or j times UP TURNED (j is 0 or more), with or without STAR");
        x = new PlankBench();
        for (int j = -6; j <= 6; j++) {
            x.up(j, true, 0);
            isUps(x, 0, j, 1);
            x.up(j, false, 0);
            if (j != 0) isUps(x, 0, j, 0);
        }
        x = new PlankBench();
        manyUps(x, 98, 0);
        x.up(1, true, 1);
        due("SIZE of 99 UP and STAR", x.add(0, 1, 0), 101);
        isUps(x, 0, 99, 1);
        x.turn(0, 0);
        isUps(x, 0, -99, 1);

        says("Terms 3", "UP: but no NUMBER");
        x = new PlankBench();
        due("j is 0, without STAR", x.told(0, 4), 1);
        due("ups of NOUGHT", x.ups(0, 0), NOT_TOLD);

        says("Terms 3", "0 all others, next to what is UP");
        x = new PlankBench();
        x.up(0, true, 1);
        x.game(3, 3, 2);
        told(x, 2, 3, 2, 2, 2, 0);
        x.up(1, true, 3);
        // NOUGHT, STAR and that one on both sides; beside NOUGHT it is UP and what is of no KIND.
        x.game(7, 7, 4);
        told(x, 4, 4, 3, 3, 3, 0);
        x.game(1, 1 << 4, 4);
        told(x, 4, 5, 4, 1, 1, 0);
        // {NOUGHT | UP TURNED} is STAR; {NOUGHT | UP} is two UP and STAR; {NOUGHT | UP and STAR} two UP.
        x.up(1, false, 5);
        x.game(1, 1 << 5, 6);
        isUps(x, 6, 2, 1);
        x.game(1, 1 << 3, 6);
        isUps(x, 6, 2, 0);
        // Tiny: NOUGHT to the left, {NOUGHT | -1} to the right.
        pair(x, 0, -1, 6);
        x.game(1, 1 << 6, 6);
        told(x, 6, 4, 3, 1, 1, 0);

        says("Terms 3", "the first of 1, 2, 3 that is so (STAR is UP: j is 0)");
        x = new PlankBench();
        pair(x, 0, 0, 0);
        isUps(x, 0, 0, 1);
        due("value of STAR", x.value(0, 0), NOT_TOLD);
    }

    // ---- Promises 1 to 9

    private static void aNewObject() {
        says("Promise 1", "no FREE fields");
        PlankBench x = new PlankBench();
        for (int b = 0; b < 6; b++) {
            due("mask of " + b, mask(x, b), 0);
            due("fields(" + b + ")", x.fields(b), 0);
            due("lift(" + b + ")", x.lift(b), NONE);
        }

        says("Promise 1", "NOUGHT in all SPOTS");
        for (int a = 0; a < 10; a++) {
            told(x, a, 1, 0, 0, 0, 1);
            isNumber(x, a, 0, 0);
        }
    }

    private static void row() {
        says("Promise 2", "FREE just where bits has 1 (bit c of column c)");
        PlankBench x = new PlankBench();
        fill(x, 0);
        due("row(0, 1, 1)", x.row(0, 1, 1), 13);
        due("mask", mask(x, 0), 0xFF1F);
        due("row(0, 1, 8)", x.row(0, 1, 8), 13);
        due("mask", mask(x, 0), 0xFF8F);

        says("Promise 2", "what was laid on the board can't be lifted any more: by another row, as it was");
        x = new PlankBench();
        fill(x, 0);
        fill(x, 1);
        x.lay(0, 0, 0);
        x.lay(0, 4, 0);
        x.lay(1, 8, 1);
        due("row(0, 3, 15)", x.row(0, 3, 15), 12);
        due("lift(0)", x.lift(0), NONE);
        due("mask", mask(x, 0), 0xFFCC);
        due("lay(0, 2, 0), counted anew", x.lay(0, 2, 0), 1);
        due("lift(1), of another board", x.lift(1), 8);

        says("Promise 2", "how many are FREE on it: the least, the most");
        x = new PlankBench();
        due("row(5, 3, 0)", x.row(5, 3, 0), 0);
        for (int r = 0; r < 4; r++) due("row(5, " + r + ", 15)", x.row(5, r, 15), 4 * r + 4);
        for (int r = 3; r >= 0; r--) due("row(5, " + r + ", 0)", x.row(5, r, 0), 4 * r);

        says("Promise 2", "NUMBER: b isn't 0 .. 5");
        x = benchIn(Boundaries::busy);
        due("row(0, 0, 9)", x.row(0, 0, 9), 11);
        due("row(5, 0, 9)", x.row(5, 0, 9), 3);
        refused(NUMBER, outside(0, 5), "row(?, 0, 9)", (y, v) -> y.row(v, 0, 9));

        says("Promise 2", "NUMBER: r not 0 .. 3");
        x = benchIn(Boundaries::busy);
        due("row(0, 0, 6)", x.row(0, 0, 6), 11);
        due("row(0, 3, 6)", x.row(0, 3, 6), 11);
        refused(NUMBER, outside(0, 3), "row(0, ?, 6)", (y, v) -> y.row(0, v, 6));

        says("Promise 2", "NUMBER: bits not 0 .. 15");
        x = benchIn(Boundaries::busy);
        due("row(0, 1, 0)", x.row(0, 1, 0), 7);
        due("row(0, 1, 15)", x.row(0, 1, 15), 11);
        refused(NUMBER, outside(0, 15), "row(0, 1, ?)", (y, v) -> y.row(0, 1, v));
    }

    private static void fillAll(PlankBench x) {
        for (int b = 0; b < 6; b++) fill(x, b);
    }

    private static void lookAtBoards() {
        says("Promise 3", "(false if there is none such): fields 0 .. 15");
        PlankBench x = benchIn(Boundaries::fillAll);
        due("field(2, 0)", x.field(2, 0), true);
        due("field(2, 15)", x.field(2, 15), true);
        refused(Boundaries::fillAll, 0, outside(0, 15), "field(2, ?)", (y, v) -> y.field(2, v) ? 1 : 0);

        says("Promise 3", "(false if there is none such): boards 0 .. 5");
        due("field(0, 5)", x.field(0, 5), true);
        due("field(5, 5)", x.field(5, 5), true);
        refused(Boundaries::fillAll, 0, outside(0, 5), "field(?, 5)", (y, v) -> y.field(v, 5) ? 1 : 0);

        says("Promise 4", "how many fields of a board are FREE: the least, the most");
        due("fields, all", x.fields(3), 16);
        due("fields, none", new PlankBench().fields(3), 0);

        says("Promise 4", "NUMBER: there is none such");
        x = benchIn(Boundaries::busy);
        due("fields(0)", x.fields(0), 10);
        due("fields(5)", x.fields(5), 1);
        refused(NUMBER, outside(0, 5), "fields(?)", (y, v) -> y.fields(v));

        says("Promise 5", "how many PARTS a board has: none, one of all fields, the most");
        x = new PlankBench();
        due("parts, no FREE field", x.parts(0), 0);
        x.row(0, 3, 8);
        due("parts, one FREE field", x.parts(0), 1);
        fill(x, 0);
        due("parts, all FREE", x.parts(0), 1);
        board(x, 0, 5, 10, 5, 10);
        due("parts, every other field", x.parts(0), 8);
        board(x, 0, 10, 5, 10, 5);
        due("parts, every other field but these", x.parts(0), 8);

        says("Promise 5", "NUMBER: there is none such");
        x = benchIn(Boundaries::busy);
        due("parts(0)", x.parts(0), 1);
        due("parts(5)", x.parts(5), 1);
        refused(NUMBER, outside(0, 5), "parts(?)", (y, v) -> y.parts(v));

        says("Promise 6", "how many planks who could lay: the least, the most");
        x = new PlankBench();
        board(x, 0, 5, 10, 5, 10);
        fill(x, 1);
        for (int who = 0; who < 2; who++) {
            due("moves(0, " + who + ")", x.moves(0, who), 0);
            due("moves(1, " + who + ")", x.moves(1, who), 12);
        }
        board(x, 2, 15, 0, 0, 0);
        due("moves(2, 0), of ALONG alone", x.moves(2, 0), 3);
        due("moves(2, 1), of ALONG alone", x.moves(2, 1), 0);

        says("Promise 6", "NUMBER: there is no such board");
        x = benchIn(Boundaries::busy);
        due("moves(0, 0)", x.moves(0, 0), 5);
        due("moves(5, 0)", x.moves(5, 0), 0);
        refused(NUMBER, outside(0, 5), "moves(?, 0)", (y, v) -> y.moves(v, 0));

        says("Promise 6", "NUMBER: who isn't 0, 1");
        due("moves(0, 1)", x.moves(0, 1), 6);
        refused(NUMBER, outside(0, 1), "moves(0, ?)", (y, v) -> y.moves(0, v));
    }

    private static void lay() {
        says("Promise 7", "how many can be lifted now: the first, the most");
        PlankBench x = new PlankBench();
        fill(x, 0);
        fill(x, 1);
        for (int i = 0; i < 8; i++) due("plank " + i + " of ALONG", x.lay(0, 2 * i, 0), i + 1);
        for (int i = 0; i < 8; i++) due("plank " + i + " of ACROSS", x.lay(1, i / 4 * 8 + i % 4, 1), i + 1);
        due("mask of 0", mask(x, 0), 0);
        due("mask of 1", mask(x, 1), 0);

        says("Promise 7", "NUMBER: there is no such board");
        x = benchIn(Boundaries::busy);
        due("lay(0, 4, 0)", x.lay(0, 4, 0), 4);
        x.row(5, 0, 3);
        due("lay(5, 0, 0)", x.lay(5, 0, 0), 1);
        refused(NUMBER, outside(0, 5), "lay(?, 4, 0)", (y, v) -> y.lay(v, 4, 0));

        says("Promise 7", "NUMBER: who isn't 0, 1");
        x = benchIn(Boundaries::busy);
        due("lay(0, 4, 1)", x.lay(0, 4, 1), 4);
        refused(NUMBER, outside(0, 1), "lay(0, 4, ?)", (y, v) -> y.lay(0, 4, v));

        says("Promise 7", "NUMBER: f not 0 .. 15");
        x = benchIn(Boundaries::fillAll);
        due("lay(1, 0, 0)", x.lay(1, 0, 0), 1);
        due("lay(1, 15, 0)", x.lay(1, 15, 0), KIND);
        due("lay(1, 15, 1)", x.lay(1, 15, 1), KIND);
        refused(Boundaries::fillAll, NUMBER, outside(0, 15), "lay(1, ?, 0)", (y, v) -> y.lay(1, v, 0));
        refused(Boundaries::fillAll, NUMBER, outside(0, 15), "lay(1, ?, 1)", (y, v) -> y.lay(1, v, 1));

        says("Promise 7", "KIND: it can't be laid there: by the board's edges");
        x = benchIn(Boundaries::fillAll);
        due("lay(0, 14, 0)", x.lay(0, 14, 0), 1);
        due("lay(1, 11, 1)", x.lay(1, 11, 1), 1);
        due("lay(1, 8, 1)", x.lay(1, 8, 1), 2);
        refused(Boundaries::fillAll, KIND, new int[] {3, 7, 11, 15}, "lay(1, ?, 0)", (y, v) -> y.lay(1, v, 0));
        refused(Boundaries::fillAll, KIND, new int[] {12, 13, 14, 15}, "lay(1, ?, 1)", (y, v) -> y.lay(1, v, 1));

        says("Promise 7", "KIND: it can't be laid there: the first field, the next one or none is FREE");
        // FREE are 3, 4, 5, 7, 8 .. 13 of board 0.
        refused(KIND, new int[] {0, 2, 6, 13, 14}, "lay(0, ?, 0)", (y, v) -> y.lay(0, v, 0));
        refused(KIND, new int[] {0, 1, 2, 6, 10, 11}, "lay(0, ?, 1)", (y, v) -> y.lay(0, v, 1));
        x = benchIn(Boundaries::busy);
        due("lay(0, 12, 0)", x.lay(0, 12, 0), 4);
        due("lay(0, 7, 1)", x.lay(0, 7, 1), 5);

        says("Promise 7", "NUMBER ahead of KIND");
        refused(NUMBER, outside(0, 5), "lay(?, 0, 0), covered", (y, v) -> y.lay(v, 0, 0));
        refused(NUMBER, outside(0, 1), "lay(0, 15, ?)", (y, v) -> y.lay(0, 15, v));
        refused(NUMBER, outside(0, 15), "lay(4, ?, 0), none FREE", (y, v) -> y.lay(4, v, 0));
    }

    private static void lift() {
        says("Promise 8", "the last plank that was not lifted yet is: the lesser one of its fields");
        PlankBench x = new PlankBench();
        fill(x, 0);
        for (int i = 0; i < 8; i++) x.lay(0, 2 * i, 0);
        for (int i = 7; i >= 0; i--) {
            due("lift(0)", x.lift(0), 2 * i);
            due("fields(0)", x.fields(0), 16 - 2 * i);
        }
        x.lay(0, 11, 1);
        x.lay(0, 12, 0);
        x.lift(0);
        x.lay(0, 0, 1);
        due("lift(0), laid behind a lift", x.lift(0), 0);
        due("lift(0), of ACROSS at the lower edge", x.lift(0), 11);
        due("mask", mask(x, 0), 0xFFFF);

        says("Promise 8", "NUMBER: there is no such board");
        x = benchIn(Boundaries::busy);
        due("lift(0)", x.lift(0), 14);
        due("lift(5)", x.lift(5), 11);
        refused(NUMBER, outside(0, 5), "lift(?)", (y, v) -> y.lift(v));

        says("Promise 8", "NONE: there is no such plank: none was laid, all were lifted");
        refused(NONE, new int[] {1, 2, 4}, "lift(?)", (y, v) -> y.lift(v));
        refused(y -> {
            busy(y);
            y.lift(3);
        }, NONE, new int[] {3}, "lift(?), once more", (y, v) -> y.lift(v));
        refused(y -> {
            busy(y);
            y.row(3, 3, 0);
        }, NONE, new int[] {3}, "lift(?), behind a row", (y, v) -> y.lift(v));
    }

    private static void quarter() {
        says("Promise 9", "field (r, c) of it is FREE if (3 - c, r) of b was");
        PlankBench x = new PlankBench();
        for (int f = 0; f < 16; f++) {
            x.row(0, f / 4, 1 << f % 4);
            due("quarter(0, 5)", x.quarter(0, 5), 1);
            due("field " + f + " turned", x.field(5, 4 * (f % 4) + 3 - f / 4), true);
            x.row(0, f / 4, 0);
        }

        says("Promise 9", "how many are FREE: the least, the most");
        x = new PlankBench();
        due("quarter(0, 1), none", x.quarter(0, 1), 0);
        fill(x, 0);
        due("quarter(0, 1), all", x.quarter(0, 1), 16);
        due("mask", mask(x, 1), 0xFFFF);

        says("Promise 9", "a board may become itself, turned");
        x = new PlankBench();
        x.row(0, 0, 7);
        due("quarter(0, 0)", x.quarter(0, 0), 3);
        due("mask", mask(x, 0), 0x0888);
        x.quarter(0, 0);
        due("mask, turned twice", mask(x, 0), 0xE000);
        x.quarter(0, 0);
        due("mask, turned three times", mask(x, 0), 0x1110);
        x.quarter(0, 0);
        due("mask, turned four times", mask(x, 0), 7);

        says("Promise 9", "nothing can be lifted on it");
        x = benchIn(Boundaries::busy);
        due("quarter(1, 0)", x.quarter(1, 0), 4);
        due("lift(0)", x.lift(0), NONE);
        due("quarter(3, 3)", x.quarter(3, 3), 2);
        due("lift(3)", x.lift(3), NONE);
        due("quarter(5, 4)", x.quarter(5, 4), 1);
        due("lift(5), of what was turned", x.lift(5), 11);

        says("Promise 9", "NUMBER: there is none such");
        x = benchIn(Boundaries::busy);
        due("quarter(0, 5)", x.quarter(0, 5), 10);
        due("quarter(5, 0)", x.quarter(5, 0), 10);
        refused(NUMBER, outside(0, 5), "quarter(?, 0)", (y, v) -> y.quarter(v, 0));
        refused(NUMBER, outside(0, 5), "quarter(1, ?)", (y, v) -> y.quarter(1, v));
    }

    // ---- Promises 10 to 16

    /** Two corners of five fields, each worth 1 and STAR: ten fields, together worth 2. */
    private static void tenFields(PlankBench x) {
        busy(x);
        board(x, 4, 15, 1, 8, 15);
    }

    private static void elevenFields(PlankBench x) {
        busy(x);
        board(x, 4, 15, 9, 8, 15);
    }

    private static void worth() {
        says("Promise 10", "the GAME of a board: no FREE field, one, no plank");
        PlankBench x = new PlankBench();
        x.number(1, 0, 0);
        due("worth(0, 0)", x.worth(0, 0), 1);
        x.row(0, 3, 8);
        due("worth(0, 0)", x.worth(0, 0), 1);
        isNumber(x, 0, 0, 0);
        board(x, 0, 5, 10, 5, 10);
        due("worth(0, 0)", x.worth(0, 0), 1);

        says("Promise 10", "NUMBER: there is no such board");
        x = benchIn(Boundaries::busy);
        due("worth(0, 1)", x.worth(0, 1) > 0, true);
        due("worth(5, 1)", x.worth(5, 1), 1);
        refused(NUMBER, outside(0, 5), "worth(?, 1)", (y, v) -> y.worth(v, 1));

        says("Promise 10", "NUMBER: there is no such SPOT");
        x = benchIn(Boundaries::busy);
        due("worth(1, 0)", x.worth(1, 0), 4);
        due("worth(1, 9)", x.worth(1, 9), 4);
        refused(NUMBER, outside(0, 9), "worth(1, ?)", (y, v) -> y.worth(1, v));

        says("Promise 10", "LARGE: more than 10 fields are FREE");
        x = benchIn(Boundaries::tenFields);
        due("worth, ten fields", x.worth(4, 0), 3);
        isNumber(x, 0, 2, 0);
        refused(Boundaries::elevenFields, LARGE, new int[] {4}, "worth(?, 0), eleven fields", (y, v) -> y.worth(v, 0));
        refused(Boundaries::fillAll, LARGE, new int[] {0, 5}, "worth(?, 0), sixteen fields", (y, v) -> y.worth(v, 0));

        says("Promise 10", "LARGE: what a plank covers is not FREE, and is again when it is lifted");
        x = new PlankBench();
        board(x, 0, 15, 13, 8, 15);
        due("worth, twelve fields", x.worth(0, 0), LARGE);
        x.lay(0, 6, 0);
        due("worth, ten and a plank", x.worth(0, 0), 3);
        isNumber(x, 0, 2, 0);
        x.lift(0);
        due("worth, lifted again", x.worth(0, 0), LARGE);
        isNumber(x, 0, 2, 0);

        says("Promise 10", "NUMBER ahead of LARGE");
        refused(Boundaries::fillAll, NUMBER, outside(0, 5), "worth(?, 0)", (y, v) -> y.worth(v, 0));
        refused(Boundaries::fillAll, NUMBER, outside(0, 9), "worth(0, ?)", (y, v) -> y.worth(0, v));
    }

    private static void number() {
        says("Promise 11", "NUMBER: k isn't 0 .. 3");
        PlankBench x = benchIn(Boundaries::busy);
        due("number(1, 0, 6)", x.number(1, 0, 6), 2);
        isNumber(x, 6, 1, 0);
        due("number(1, 3, 6)", x.number(1, 3, 6), 5);
        isNumber(x, 6, 1, 3);
        refused(NUMBER, outside(0, 3), "number(1, ?, 6)", (y, v) -> y.number(1, v, 6));
        refused(NUMBER, outside(0, 3), "number(0, ?, 6)", (y, v) -> y.number(0, v, 6));

        says("Promise 11", "NUMBER: or n / 2^k not -8 .. 8");
        for (int k = 0; k <= 3; k++) {
            int scale = k;
            x = benchIn(Boundaries::busy);
            due("number(8, k)", x.number(8 << k, k, 6), 9);
            isNumber(x, 6, 8, 0);
            due("number(-8, k)", x.number(-(8 << k), k, 6), 9);
            isNumber(x, 6, -8, 0);
            due("next to 8", x.number((8 << k) - 1, k, 6), 8 + (k == 0 ? 0 : 1 + k));
            isNumber(x, 6, (8 << k) - 1, k);
            due("next to -8", x.number(1 - (8 << k), k, 6), 8 + (k == 0 ? 0 : 1 + k));
            isNumber(x, 6, 1 - (8 << k), k);
            refused(NUMBER, outside(-(8 << k), 8 << k), "number(?, " + k + ", 6)", (y, v) -> y.number(v, scale, 6));
            refused(NUMBER, new int[] {1 << 28, 1 << 29, 1 << 30, -1 << 28, -1 << 30}, "number(?, " + k + ", 6)",
                (y, v) -> y.number(v, scale, 6));
        }

        says("Promise 11", "NOUGHT, as 0 / 2^k");
        for (int k = 0; k <= 3; k++) {
            due("number(0, " + k + ", 6)", x.number(0, k, 6), 1);
            isNumber(x, 6, 0, 0);
        }

        says("Promise 11", "NUMBER: or there is no such SPOT");
        x = benchIn(Boundaries::busy);
        due("number(7, 2, 0)", x.number(7, 2, 0), 5);
        due("number(7, 2, 9)", x.number(7, 2, 9), 5);
        refused(NUMBER, outside(0, 9), "number(7, 2, ?)", (y, v) -> y.number(7, 2, v));
    }

    private static void up() {
        says("Promise 12", "NUMBER: j isn't -6 .. 6");
        for (int star = 0; star < 2; star++) {
            boolean withStar = star == 1;
            PlankBench x = benchIn(Boundaries::busy);
            due("up(6, " + withStar + ", 0)", x.up(6, withStar, 0), 8);
            isUps(x, 0, 6, star);
            due("up(-6, " + withStar + ", 0)", x.up(-6, withStar, 0), 8);
            isUps(x, 0, -6, star);
            refused(NUMBER, outside(-6, 6), "up(?, " + withStar + ", 0)", (y, v) -> y.up(v, withStar, 0));
        }

        says("Promise 12", "j is 0: NOUGHT, or STAR if star is true");
        PlankBench x = benchIn(Boundaries::busy);
        due("up(0, false, 0)", x.up(0, false, 0), 1);
        told(x, 0, 1, 0, 0, 0, 1);
        due("up(0, true, 0)", x.up(0, true, 0), 2);
        told(x, 0, 2, 1, 1, 1, 3);

        says("Promise 12", "of UP TURNED, j times without its sign, if j is below 0");
        due("up(1, false, 0)", x.up(1, false, 0), 3);
        due("up(-1, false, 1)", x.up(-1, false, 1), 3);
        due("their SUM", x.add(0, 1, 2), 1);
        due("wins(0)", x.wins(0), 1);
        due("wins(1)", x.wins(1), 2);

        says("Promise 12", "NUMBER: or there is no such SPOT");
        x = benchIn(Boundaries::busy);
        due("up(2, true, 0)", x.up(2, true, 0), 4);
        due("up(2, true, 9)", x.up(2, true, 9), 4);
        refused(NUMBER, outside(0, 9), "up(2, true, ?)", (y, v) -> y.up(2, true, v));
        refused(NUMBER, outside(0, 9), "up(0, false, ?)", (y, v) -> y.up(0, false, v));
    }

    /** 20 in SPOT 0, 21 in SPOT 1, -20 in SPOT 2, -21 in SPOT 3: as DEEP as that. */
    private static void deepOnes(PlankBench x) {
        whole(x, 20, 0);
        whole(x, 21, 1);
        x.turn(0, 2);
        x.turn(1, 3);
        x.up(1, true, 4);
        x.number(0, 0, 9);
    }

    private static void oneIn(PlankBench x, int n, int spot) {
        whole(x, n, 8);
        x.number(0, 0, 9);
        x.add(8, 9, spot);
        if (spot != 8) x.number(0, 0, 8);
    }

    /** SIZE 21 in SPOTS 0 .. 6, another one in SPOT 7, NOUGHT in 8 and 9. */
    private static void sevenOf21(PlankBench x, int other) {
        whole(x, 20, 0);
        for (int s = 1; s < 7; s++) x.add(0, 8, s);
        x.number(other - 1, 0, 7);
        x.number(0, 0, 9);
    }

    private static void game() {
        says("Promise 13", "all SPOTS s for which lefts has bit s, and of those of rights");
        PlankBench x = new PlankBench();
        for (int s = 0; s < 10; s++) {
            PlankBench y = new PlankBench();
            y.number(s - 5, 0, s);
            y.game(1 << s, 0, 0);
            isNumber(y, 0, Math.max(0, s - 4), 0);
            y.number(s - 5, 0, s);
            y.game(0, 1 << s, 0);
            isNumber(y, 0, Math.min(0, s - 6), 0);
        }

        says("Promise 13", "NUMBER: lefts or rights isn't 0 .. 1023");
        due("game(0, 0, 0)", x.game(0, 0, 0), 1);
        due("game(1023, 0, 0)", x.game(1023, 0, 0), 2);
        isNumber(x, 0, 1, 0);
        x.number(0, 0, 0);
        due("game(0, 1023, 0)", x.game(0, 1023, 0), 2);
        isNumber(x, 0, -1, 0);
        x.number(0, 0, 0);
        due("game(1023, 1023, 0)", x.game(1023, 1023, 0), 2);
        isUps(x, 0, 0, 1);
        refused(NUMBER, outside(0, 1023), "game(?, 2, 0)", (y, v) -> y.game(v, 2, 0));
        refused(NUMBER, outside(0, 1023), "game(2, ?, 0)", (y, v) -> y.game(2, v, 0));

        says("Promise 13", "NUMBER: or there is no such SPOT");
        x = benchIn(Boundaries::busy);
        due("game(2, 1, 0), into one of its own", x.game(2, 1, 0), 1);
        due("game(256, 2, 9)", x.game(256, 2, 9), 13);
        refused(NUMBER, outside(0, 9), "game(256, 2, ?)", (y, v) -> y.game(256, 2, v));

        says("Promise 13", "LARGE: one of these GAMES is more than 20 DEEP");
        x = benchIn(Boundaries::deepOnes);
        due("game(20 | )", x.game(1 << 0, 0, 5), 22);
        isNumber(x, 5, 21, 0);
        due("game( | 20)", x.game(0, 1 << 0, 5), 1);
        due("game( | -20)", x.game(0, 1 << 2, 5), 22);
        isNumber(x, 5, -21, 0);
        due("game(20 | -20)", x.game(1 << 0, 1 << 2, 5), 42);
        told(x, 5, 42, 21, 1, 1, 2);
        refused(Boundaries::deepOnes, LARGE, new int[] {2, 3, 8, 1 << 1 | 1 << 9}, "game(?, 0, 5)", (y, v) -> y.game(v, 0, 5));
        refused(Boundaries::deepOnes, LARGE, new int[] {2, 3, 8, 1 << 1 | 1 << 9}, "game(0, ?, 5)", (y, v) -> y.game(0, v, 5));
        refused(Boundaries::deepOnes, LARGE, new int[] {1, 2, 16}, "game(2, ?, 5)", (y, v) -> y.game(2, v, 5));
        refused(Boundaries::deepOnes, LARGE, new int[] {1, 2, 16}, "game(?, 2, 5)", (y, v) -> y.game(v, 2, 5));

        says("Promise 13", "LARGE: one of these GAMES is more than 20 DEEP, in whichever SPOT");
        for (int s = 0; s < 10; s++) {
            int spot = s;
            x = benchIn(y -> oneIn(y, 20, spot));
            due("20 in " + s, x.game(1 << s, 0, s), 22);
            refused(y -> oneIn(y, 21, spot), LARGE, "game(21 | )", (y, v) -> y.game(1 << spot, 0, 5));
            refused(y -> oneIn(y, 21, spot), LARGE, "game( | 21)", (y, v) -> y.game(0, 1 << spot, 5));
        }

        says("Promise 13", "LARGE: a GAME that is more than 20 DEEP in another SPOT is none of these");
        x = benchIn(Boundaries::deepOnes);
        due("game(21, 0, 1), into it", x.game(1 << 0, 0, 1), 22);
        due("game(16, 16, 5), beside it", x.game(1 << 4, 1 << 4, 5) > 0, true);

        says("Promise 13", "LARGE: the SIZES of all these SPOTS (one that is in both counted twice) are together above 300");
        x = benchIn(y -> sevenOf21(y, 6));
        due("seven of 21 twice, and 6: 300", x.game(255, 127, 9), 22);
        told(x, 9, 22, 21, 1, 1, 0);
        x = benchIn(y -> sevenOf21(y, 6));
        due("the other way about", x.game(127, 255, 9), 22);
        refused(y -> sevenOf21(y, 7), LARGE, "game(255, 127, 9), 301", (y, v) -> y.game(255, 127, 9));
        refused(y -> sevenOf21(y, 7), LARGE, "game(127, 255, 9), 301", (y, v) -> y.game(127, 255, 9));
        refused(y -> sevenOf21(y, 6), LARGE, "game(511, 127, 9), 301 by NOUGHT", (y, v) -> y.game(511, 127, 9));
        refused(y -> sevenOf21(y, 9), LARGE, "game(1023, 1023, 9), all SPOTS", (y, v) -> y.game(1023, 1023, 9));

        says("Promise 13", "LARGE: together above 300, of one GAME as large as any");
        x = benchIn(y -> full(y, ONE_GROWTH, 0));
        told(x, 0, 300, 20, 1, 1, 0);
        stops(x, 0, 20, -20);
        due("alone to the left", x.game(1, 0, 2), 1);
        due("alone to the right", x.game(0, 1, 2), 1);
        refused(y -> full(y, ONE_GROWTH, 0), LARGE, "game(1, 2, 3), beside NOUGHT", (y, v) -> y.game(1, 2, 3));
        refused(y -> full(y, ONE_GROWTH, 0), LARGE, "game(2, 1, 3), beside NOUGHT", (y, v) -> y.game(2, 1, 3));
        refused(y -> full(y, ONE_GROWTH, 0), LARGE, "game(1, 1, 3), twice", (y, v) -> y.game(1, 1, 3));
        x = benchIn(y -> half(y, ONE_GROWTH, 0));
        due("half of it on both sides", x.game(1, 1, 3) > 0, true);
        refused(y -> half(y, ONE_GROWTH, 0), LARGE, "game(3, 1, 3), and NOUGHT", (y, v) -> y.game(3, 1, 3));

        says("Promise 13", "NUMBER ahead of LARGE");
        refused(Boundaries::deepOnes, NUMBER, outside(0, 1023), "game(?, 2, 5)", (y, v) -> y.game(v, 2, 5));
        refused(Boundaries::deepOnes, NUMBER, outside(0, 1023), "game(2, ?, 5)", (y, v) -> y.game(2, v, 5));
        refused(Boundaries::deepOnes, NUMBER, outside(0, 9), "game(2, 2, ?)", (y, v) -> y.game(2, 2, v));
        refused(y -> sevenOf21(y, 7), NUMBER, outside(0, 9), "game(255, 127, ?)", (y, v) -> y.game(255, 127, v));
    }

    private static void add() {
        says("Promise 14", "NUMBER: there is none such: a");
        PlankBench x = benchIn(Boundaries::busy);
        due("add(0, 0, 5)", x.add(0, 0, 5), 2);
        due("add(9, 3, 5)", x.add(9, 3, 5), 4);
        refused(NUMBER, outside(0, 9), "add(?, 0, 5)", (y, v) -> y.add(v, 0, 5));

        says("Promise 14", "NUMBER: there is none such: b");
        x = benchIn(Boundaries::busy);
        due("add(1, 0, 5)", x.add(1, 0, 5), 5);
        due("add(3, 9, 5)", x.add(3, 9, 5), 4);
        refused(NUMBER, outside(0, 9), "add(0, ?, 5)", (y, v) -> y.add(0, v, 5));

        says("Promise 14", "NUMBER: there is none such: to");
        x = benchIn(Boundaries::busy);
        due("add(8, 1, 0)", x.add(8, 1, 0), 6);
        due("add(8, 1, 9)", x.add(8, 1, 9), 6);
        refused(NUMBER, outside(0, 9), "add(8, 1, ?)", (y, v) -> y.add(8, 1, v));

        says("Promise 14", "into one of both SPOTS, or both are one");
        x = benchIn(Boundaries::busy);
        due("add(8, 1, 8)", x.add(8, 1, 8), 6);
        isNumber(x, 8, 5, 0);
        due("add(8, 1, 1)", x.add(8, 1, 1), 3);
        isNumber(x, 1, 2, 0);
        due("add(8, 8, 8)", x.add(8, 8, 8), 11);
        isNumber(x, 8, 10, 0);

        says("Promise 14", "LARGE: the product of both SIZES is above 300");
        x = benchIn(y -> wholes(y, 14, 19));
        due("15 times 20", x.add(0, 1, 2), 34);
        due("20 times 15", x.add(1, 0, 2), 34);
        x = benchIn(y -> wholes(y, 149, 1));
        due("150 times 2", x.add(0, 1, 2), 151);
        isNumber(x, 2, 150, 0);
        x = benchIn(y -> wholes(y, 16, 0));
        due("17 times 17", x.add(0, 0, 2), 33);
        x = benchIn(y -> full(y, ONE_GROWTH, 0));
        due("300 times 1", x.add(0, 1, 2), 300);
        due("1 times 300", x.add(1, 0, 3), 300);
        due("compare(0, 2)", x.compare(0, 2), 0);
        due("compare(0, 3)", x.compare(0, 3), 0);
        refused(y -> wholes(y, 42, 6), LARGE, "add(0, 1, 2), 43 times 7", (y, v) -> y.add(0, 1, 2));
        refused(y -> wholes(y, 6, 42), LARGE, "add(0, 1, 2), 7 times 43", (y, v) -> y.add(0, 1, 2));
        refused(y -> wholes(y, 150, 1), LARGE, "add(0, 1, 2), 151 times 2", (y, v) -> y.add(0, 1, 2));
        refused(y -> wholes(y, 17, 0), LARGE, "add(0, 0, 2), 18 times 18", (y, v) -> y.add(0, 0, 2));
        refused(y -> full(y, ONE_GROWTH, 0), LARGE, "add(0, 0, 2), 300 times 300", (y, v) -> y.add(0, 0, 2));

        says("Promise 14", "NUMBER ahead of LARGE");
        refused(y -> wholes(y, 42, 6), NUMBER, outside(0, 9), "add(0, 1, ?)", (y, v) -> y.add(0, 1, v));
        refused(y -> wholes(y, 150, 1), NUMBER, outside(0, 9), "add(?, 0, 2)", (y, v) -> y.add(v, 0, 2));
        refused(y -> wholes(y, 150, 1), NUMBER, outside(0, 9), "add(0, ?, 2)", (y, v) -> y.add(0, v, 2));
    }

    private static void wholes(PlankBench x, int one, int other) {
        whole(x, one, 0);
        whole(x, other, 1);
        x.up(0, true, 9);
    }

    private static void turn() {
        says("Promise 15", "the GAME of a SPOT, TURNED: NOUGHT, in place, the largest");
        PlankBench x = new PlankBench();
        due("turn(0, 1)", x.turn(0, 1), 1);
        x.number(5, 3, 0);
        due("turn(0, 0)", x.turn(0, 0), 5);
        isNumber(x, 0, -5, 3);
        full(x, ONE_GROWTH, 0);
        due("turn(0, 1)", x.turn(0, 1), 300);
        due("compare(0, 1), the same TURNED", x.compare(0, 1), 0);

        says("Promise 15", "NUMBER: there is none such");
        x = benchIn(Boundaries::busy);
        due("turn(0, 9)", x.turn(0, 9), 3);
        isNumber(x, 9, -1, 1);
        due("turn(9, 0)", x.turn(9, 0), 3);
        isNumber(x, 0, 1, 1);
        refused(NUMBER, outside(0, 9), "turn(?, 5)", (y, v) -> y.turn(v, 5));
        refused(NUMBER, outside(0, 9), "turn(1, ?)", (y, v) -> y.turn(1, v));
    }

    /**
     * Nine LEFT ones, each of a number and it TURNED, none of which is AT LEAST another, and -8 as
     * the RIGHT one, in SPOT 9. In ORDER these are of 1, 2, 1 / 2, 3, 3 / 2, 4, 5, 6, 7: 2 is ahead of
     * 1 / 2, and 3 of 3 / 2, as it has no RIGHT one.
     */
    private static void nineLefts(PlankBench x) {
        int[][] numbers = {{7, 0}, {3, 1}, {1, 0}, {6, 0}, {1, 1}, {2, 0}, {5, 0}, {3, 0}, {4, 0}};
        for (int s = 0; s < 9; s++) {
            x.number(numbers[s][0], numbers[s][1], s);
            x.turn(s, 9);
            x.game(1 << s, 1 << 9, s);
        }
        x.number(-8, 0, 9);
        x.game(511, 512, 9);
    }

    private static void option() {
        says("Promise 16", "LEFT one i: the first, the last");
        PlankBench x = benchIn(Boundaries::nineLefts);
        due("told(9, 2)", x.told(9, 2), 9);
        int[] quarters = {4, 8, 2, 12, 6, 16, 20, 24, 28};
        for (int i = 0; i < 9; i++) {
            due("option(9, 0, " + i + ", 0)", x.option(9, 0, i, 0) > 0, true);
            stops(x, 0, quarters[i], -quarters[i]);
        }

        says("Promise 16", "RIGHT one i: the first, the last");
        x.turn(9, 9);
        due("told(9, 3)", x.told(9, 3), 9);
        for (int i = 0; i < 9; i++) {
            due("option(9, 1, " + i + ", 0)", x.option(9, 1, i, 0) > 0, true);
            stops(x, 0, quarters[i], -quarters[i]);
        }

        says("Promise 16", "in place, and of the largest");
        x = new PlankBench();
        x.number(8, 0, 0);
        for (int n = 7; n >= 0; n--) due("option(0, 0, 0, 0)", x.option(0, 0, 0, 0), n + 1);
        due("option(0, 0, 0, 0)", x.option(0, 0, 0, 0), NONE);
        full(x, ONE_GROWTH, 0);
        due("option(0, 0, 0, 1)", x.option(0, 0, 0, 1), 150);
        due("option(0, 1, 0, 2)", x.option(0, 1, 0, 2), 150);
        due("compare(1, 2)", x.compare(1, 2), 1);

        says("Promise 16", "NUMBER: there is no such SPOT");
        x = benchIn(Boundaries::busy);
        due("option(0, 0, 0, 5)", x.option(0, 0, 0, 5), 1);
        due("option(9, 0, 1, 5)", x.option(9, 0, 1, 5), 2);
        due("option(1, 1, 0, 0)", x.option(1, 1, 0, 0), 3);
        due("option(1, 1, 0, 9)", x.option(1, 1, 0, 9), 3);
        refused(NUMBER, outside(0, 9), "option(?, 0, 0, 5)", (y, v) -> y.option(v, 0, 0, 5));
        refused(NUMBER, outside(0, 9), "option(1, 1, 0, ?)", (y, v) -> y.option(1, 1, 0, v));

        says("Promise 16", "NUMBER: there is no such side");
        x = benchIn(Boundaries::busy);
        due("option(6, 0, 0, 5)", x.option(6, 0, 0, 5), 9);
        due("option(6, 1, 0, 5)", x.option(6, 1, 0, 5), 4);
        refused(NUMBER, outside(0, 1), "option(6, ?, 0, 5)", (y, v) -> y.option(6, v, 0, 5));

        says("Promise 16", "NONE: it has no such one");
        refused(NONE, outside(0, 1), "option(9, 0, ?, 5), of two", (y, v) -> y.option(9, 0, v, 5));
        refused(NONE, outside(0, 1), "option(9, 1, ?, 5), of two", (y, v) -> y.option(9, 1, v, 5));
        refused(NONE, outside(0, 0), "option(8, 0, ?, 5), of one", (y, v) -> y.option(8, 0, v, 5));
        refused(NONE, new int[] {-1, 0, 1}, "option(8, 1, ?, 5), of none", (y, v) -> y.option(8, 1, v, 5));
        refused(NONE, new int[] {-1, 0, 1}, "option(7, 0, ?, 5), of NOUGHT", (y, v) -> y.option(7, 0, v, 5));
        refused(NONE, new int[] {-1, 0, 1}, "option(7, 1, ?, 5), of NOUGHT", (y, v) -> y.option(7, 1, v, 5));
        refused(Boundaries::nineLefts, NONE, outside(0, 8), "option(9, 0, ?, 0), of nine", (y, v) -> y.option(9, 0, v, 0));

        says("Promise 16", "NUMBER ahead of NONE");
        refused(NUMBER, outside(0, 9), "option(?, 0, 9, 5)", (y, v) -> y.option(v, 0, 9, 5));
        refused(NUMBER, outside(0, 1), "option(7, ?, 0, 5)", (y, v) -> y.option(7, v, 0, 5));
        refused(NUMBER, outside(0, 9), "option(7, 0, -1, ?)", (y, v) -> y.option(7, 0, -1, v));
    }

    // ---- Promises 17 to 22

    private static void toldAndCompared() {
        says("Promise 17", "NUMBER: there is no such SPOT");
        PlankBench x = benchIn(Boundaries::busy);
        told(x, 0, 3, 2, 1, 1, 1);
        told(x, 9, 3, 2, 2, 2, 0);
        for (int what = 0; what < 5; what++) {
            int asked = what;
            refused(NUMBER, outside(0, 9), "told(?, " + what + ")", (y, v) -> y.told(v, asked));
        }

        says("Promise 17", "NUMBER: another what");
        told(x, 6, 13, 9, 1, 1, 2);
        refused(NUMBER, outside(0, 4), "told(6, ?)", (y, v) -> y.told(6, v));

        says("Promise 18", "0 ALIKE, 1 the first is AT LEAST the second alone, 2 the second the first alone, 3 neither");
        x = new PlankBench();
        x.up(0, true, 1);
        x.number(1, 3, 2);
        x.up(6, true, 3);
        due("NOUGHT and NOUGHT", x.compare(0, 9), 0);
        due("1 / 8 and six UP and STAR", x.compare(2, 3), 1);
        due("six UP and STAR and 1 / 8", x.compare(3, 2), 2);
        due("NOUGHT and STAR", x.compare(0, 1), 3);

        says("Promise 18", "NUMBER: there is none such");
        x = benchIn(Boundaries::busy);
        due("compare(0, 9)", x.compare(0, 9), 1);
        due("compare(9, 0)", x.compare(9, 0), 2);
        refused(NUMBER, outside(0, 9), "compare(?, 0)", (y, v) -> y.compare(v, 0));
        refused(NUMBER, outside(0, 9), "compare(0, ?)", (y, v) -> y.compare(0, v));

        says("Promise 18", "LARGE: both SIZES are together above 600: 600 are allowed, and no GAME is larger than 300");
        x = new PlankBench();
        full(x, ONE_GROWTH, 0);
        full(x, OTHER_GROWTH, 1);
        due("told(0, 0)", x.told(0, 0), 300);
        due("told(1, 0)", x.told(1, 0), 300);
        due("the same", x.compare(0, 0), 0);
        // Unlike by their STOPS; both are the same TURNED, so what one is to the other, that is to it.
        stops(x, 0, 20, -20);
        due("stop(1, 0, 0)", x.stop(1, 0, 0), 43);
        due("stop(1, 0, 1)", x.stop(1, 0, 1), 3);
        due("compare(0, 1)", x.compare(0, 1), 3);
        due("compare(1, 0)", x.compare(1, 0), 3);
        whole(x, 150, 2);
        due("compare(2, 0)", x.compare(2, 0), 1);
        due("compare(0, 2)", x.compare(0, 2), 2);

        says("Promise 19", "0 who doesn't begin, 1 ALONG, 2 ACROSS, 3 who begins: next to NOUGHT");
        x = new PlankBench();
        due("NOUGHT", x.wins(0), 0);
        x.up(1, false, 0);
        due("UP", x.wins(0), 1);
        x.up(-1, false, 0);
        due("UP TURNED", x.wins(0), 2);
        x.up(0, true, 0);
        due("STAR", x.wins(0), 3);
        x.up(1, true, 0);
        due("UP and STAR", x.wins(0), 3);
        x.up(2, true, 0);
        due("two UP and STAR", x.wins(0), 1);
        full(x, ONE_GROWTH, 0);
        due("the largest", x.wins(0), 3);

        says("Promise 19", "NUMBER: there is none such");
        x = benchIn(Boundaries::busy);
        due("wins(0)", x.wins(0), 1);
        due("wins(9)", x.wins(9), 3);
        refused(NUMBER, outside(0, 9), "wins(?)", (y, v) -> y.wins(v));
    }

    private static void values() {
        says("Promise 20", "n, k of its VALUE: NOUGHT, the greatest, the finest");
        PlankBench x = new PlankBench();
        isNumber(x, 0, 0, 0);
        whole(x, 150, 0);
        isNumber(x, 0, 150, 0);
        x.number(1, 3, 2);
        for (int k = 4; k <= 20; k++) x.game(1 << 1, 1 << 2, 2);
        isNumber(x, 2, 1, 20);
        whole(x, 12, 3);
        due("12 and 1 / 2^20", x.add(2, 3, 4), 34);
        isNumber(x, 4, (12 << 20) + 1, 20);
        x.turn(4, 4);
        isNumber(x, 4, -(12 << 20) - 1, 20);

        says("Promise 20", "-1000000 if it is none");
        refused(NOT_TOLD, new int[] {2, 3, 4, 5, 6, 9}, "value(?, 0)", (y, v) -> y.value(v, 0));
        refused(NOT_TOLD, new int[] {2, 3, 4, 5, 6, 9}, "value(?, 1)", (y, v) -> y.value(v, 1));
        x = benchIn(Boundaries::busy);
        isNumber(x, 7, 0, 0);
        isNumber(x, 8, 8, 0);

        says("Promise 20", "-1000000 if there is no such SPOT");
        x.number(-5, 2, 9);
        isNumber(x, 0, 1, 1);
        isNumber(x, 9, -5, 2);
        refused(NOT_TOLD, outside(0, 9), "value(?, 0)", (y, v) -> y.value(v, 0));
        refused(NOT_TOLD, outside(0, 9), "value(?, 1)", (y, v) -> y.value(v, 1));

        says("Promise 20", "-1000000 if another what");
        refused(NOT_TOLD, outside(0, 1), "value(0, ?)", (y, v) -> y.value(0, v));

        says("Promise 21", "j (below 0 for UP TURNED), 1 with STAR, else 0: the least, the greatest");
        x = new PlankBench();
        x.up(0, true, 0);
        isUps(x, 0, 0, 1);
        x.up(-1, false, 0);
        isUps(x, 0, -1, 0);
        x.up(-1, true, 0);
        isUps(x, 0, -1, 1);
        manyUps(x, 99, 0);
        isUps(x, 0, 99, 0);
        told(x, 0, 101, 100, 1, 1, 3);
        x.turn(0, 0);
        isUps(x, 0, -99, 0);

        says("Promise 21", "-1000000 if it is another one");
        refused(NOT_TOLD, new int[] {0, 1, 5, 6, 7, 8, 9}, "ups(?, 0)", (y, v) -> y.ups(v, 0));
        refused(NOT_TOLD, new int[] {0, 1, 5, 6, 7, 8, 9}, "ups(?, 1)", (y, v) -> y.ups(v, 1));

        says("Promise 21", "-1000000 if there is no such SPOT");
        x = new PlankBench();
        x.up(1, false, 0);
        x.up(-2, true, 9);
        isUps(x, 0, 1, 0);
        isUps(x, 9, -2, 1);
        refused(NOT_TOLD, outside(0, 9), "ups(?, 0)", (y, v) -> y.ups(v, 0));
        refused(NOT_TOLD, outside(0, 9), "ups(?, 1)", (y, v) -> y.ups(v, 1));

        says("Promise 21", "-1000000 if another what");
        refused(NOT_TOLD, outside(0, 1), "ups(4, ?)", (y, v) -> y.ups(4, v));

        says("Promise 22", "of the LEFT or RIGHT STOP of the GAME of a SPOT: n, k");
        x = new PlankBench();
        stops(x, 0, 0, 0);
        x.number(7, 3, 1);
        x.number(-3, 2, 2);
        x.game(1 << 1, 1 << 2, 3);
        due("stop(3, 0, 0)", x.stop(3, 0, 0), 7);
        due("stop(3, 0, 1)", x.stop(3, 0, 1), 3);
        due("stop(3, 1, 0)", x.stop(3, 1, 0), -3);
        due("stop(3, 1, 1)", x.stop(3, 1, 1), 2);
        full(x, ONE_GROWTH, 0);
        stops(x, 0, 20, -20);

        says("Promise 22", "-1000000 if there is no such SPOT");
        x = benchIn(Boundaries::busy);
        stops(x, 0, 2, 2);
        stops(x, 9, 0, 0);
        refused(NOT_TOLD, outside(0, 9), "stop(?, 0, 0)", (y, v) -> y.stop(v, 0, 0));

        says("Promise 22", "-1000000 if there is no such side");
        stops(x, 6, 32, -12);
        refused(NOT_TOLD, outside(0, 1), "stop(6, ?, 0)", (y, v) -> y.stop(6, v, 0));

        says("Promise 22", "-1000000 if another what");
        refused(NOT_TOLD, outside(0, 1), "stop(6, 0, ?)", (y, v) -> y.stop(6, 0, v));
        refused(NOT_TOLD, outside(0, 1), "stop(0, 1, ?)", (y, v) -> y.stop(0, 1, v));
    }

    // ---- Promises 23 and 24

    /** A plank of ALONG on each board, at the end of its last row: twelve fields. */
    private static void sixPlanks(PlankBench x) {
        for (int b = 0; b < 6; b++) x.row(b, 3, 12);
    }

    /** Three planks of ALONG on boards 0 .. 2, three of ACROSS on boards 3 .. 5: twelve fields. */
    private static void threeEach(PlankBench x) {
        for (int b = 0; b < 3; b++) x.row(b, 3, 12);
        for (int b = 3; b < 6; b++) {
            x.row(b, 2, 8);
            x.row(b, 3, 8);
        }
    }

    /** One field more, on board 5, that no plank can cover. */
    private static void thirteenFields(PlankBench x) {
        sixPlanks(x);
        x.row(5, 0, 1);
        x.number(1, 1, 3);
    }

    /** Thirteen fields, and no plank at all. */
    private static void noPlanks(PlankBench x) {
        board(x, 0, 5, 10, 5, 10);
        board(x, 1, 5, 10, 1, 0);
    }

    private static void beginner() {
        says("Promise 23", "of the boards b for which boards has bit b, as one: none, one, all");
        PlankBench x = benchIn(Boundaries::sixPlanks);
        due("beginner(0, 0)", x.beginner(0, 0), 0);
        due("beginner(0, 1)", x.beginner(0, 1), 0);
        for (int b = 0; b < 6; b++) due("beginner of " + b, x.beginner(1 << b, 0), 1);
        x.row(5, 3, 8);
        x.row(5, 2, 8);
        due("beginner(33, 0), a plank of each", x.beginner(33, 0), 0);
        due("beginner(33, 1), a plank of each", x.beginner(33, 1), 0);
        due("beginner(32, 1)", x.beginner(32, 1), 1);
        due("beginner(31, 1)", x.beginner(31, 1), 0);

        says("Promise 23", "NUMBER: boards isn't 0 .. 63");
        x = benchIn(Boundaries::sixPlanks);
        due("beginner(63, 0)", x.beginner(63, 0), 1);
        due("beginner(63, 1)", x.beginner(63, 1), 0);
        refused(Boundaries::sixPlanks, NUMBER, outside(0, 63), "beginner(?, 0)", (y, v) -> y.beginner(v, 0));

        says("Promise 23", "NUMBER: who not 0, 1");
        refused(Boundaries::sixPlanks, NUMBER, outside(0, 1), "beginner(63, ?)", (y, v) -> y.beginner(63, v));

        says("Promise 23", "LARGE: more than 12 fields of these are FREE together");
        x = benchIn(Boundaries::thirteenFields);
        due("beginner(31, 0), ten of thirteen", x.beginner(31, 0), 1);
        due("beginner(62, 0), eleven of thirteen", x.beginner(62, 0), 1);
        x.row(4, 0, 0);
        x.row(4, 3, 4);
        due("beginner(63, 0), twelve", x.beginner(63, 0), 1);
        for (int who = 0; who < 2; who++) {
            int asked = who;
            refused(Boundaries::thirteenFields, LARGE, "beginner(63, who)", (y, v) -> y.beginner(63, asked));
            refused(Boundaries::fillAll, LARGE, new int[] {1, 32, 63}, "beginner(?, who)", (y, v) -> y.beginner(v, asked));
        }

        says("Promise 23", "twelve fields, and six planks in turn");
        x = benchIn(Boundaries::threeEach);
        for (int who = 0; who < 2; who++) {
            due("beginner(63, who), three each", x.beginner(63, who), 0);
            due("best(63, who), three each", x.best(63, who), NONE);
            due("beginner(62, who), two of ALONG", x.beginner(62, who), who);
            due("best(62, who), two of ALONG", x.best(62, who), who == 0 ? NONE : 59);
            due("beginner(31, who), two of ACROSS", x.beginner(31, who), 1 - who);
            due("best(31, who), two of ACROSS", x.best(31, who), who == 0 ? 14 : NONE);
        }

        says("Promise 23", "of these boards, whatever was asked of others before");
        x = benchIn(Boundaries::threeEach);
        for (int b = 0; b < 6; b++) {
            for (int who = 0; who < 2; who++) {
                boolean wins = who == b / 3;
                due("beginner of " + b, x.beginner(1 << b, who), wins ? 1 : 0);
                due("best of " + b, x.best(1 << b, who), wins ? 16 * b + (b < 3 ? 14 : 11) : NONE);
                due("beginner of " + (5 - b), x.beginner(1 << 5 - b, who), wins ? 0 : 1);
            }
        }
        x.row(0, 3, 0);
        due("beginner(1, 0), another row", x.beginner(1, 0), 0);
        x.row(0, 3, 3);
        due("beginner(1, 0), another row", x.beginner(1, 0), 1);

        says("Promise 23", "LARGE: more than 12 fields, of one board");
        x = new PlankBench();
        board(x, 0, 15, 9, 9, 15);
        // A ring is the same if rows and columns change places, so both answers are the same.
        due("twelve fields, a ring", x.beginner(1, 0) >= 0, true);
        due("twelve fields, a ring", x.beginner(1, 0), x.beginner(1, 1));
        x.row(0, 1, 11);
        due("thirteen fields", x.beginner(1, 0), LARGE);
        x.lay(0, 4, 0);
        due("eleven fields and a plank", x.beginner(1, 0) >= 0, true);

        says("Promise 23", "NUMBER ahead of LARGE");
        refused(Boundaries::fillAll, NUMBER, outside(0, 63), "beginner(?, 0)", (y, v) -> y.beginner(v, 0));
        refused(Boundaries::fillAll, NUMBER, outside(0, 1), "beginner(63, ?)", (y, v) -> y.beginner(63, v));

        says("Promise 23", "nothing is laid by it");
        x = benchIn(Boundaries::busy);
        x.beginner(2 | 8 | 32, 0);
        x.beginner(2 | 8 | 32, 1);
        due("all that is seen", seen(x).equals(seen(benchIn(Boundaries::busy))), true);
    }

    private static void best() {
        says("Promise 24", "16 times the board, and the lesser field: the least, the greatest");
        PlankBench x = new PlankBench();
        x.row(0, 0, 3);
        due("best(1, 0)", x.best(1, 0), 0);
        x.row(5, 3, 12);
        due("best(32, 0)", x.best(32, 0), 94);
        x.row(5, 3, 8);
        x.row(5, 2, 8);
        due("best(32, 1)", x.best(32, 1), 91);

        says("Promise 24", "the first plank, by boards");
        x = new PlankBench();
        x.row(2, 3, 12);
        x.row(3, 0, 3);
        due("best(12, 0)", x.best(12, 0), 46);
        due("best(8, 0)", x.best(8, 0), 48);

        says("Promise 24", "the first plank, then by fields, behind which who wins");
        x = new PlankBench();
        // A plank of ALONG at 0, a square at 10: who doesn't take the square loses it and the game.
        board(x, 0, 3, 0, 12, 12);
        due("best(1, 0)", x.best(1, 0), 10);
        due("best(1, 1)", x.best(1, 1), 10);
        x.row(0, 0, 0);
        due("best(1, 0), both planks of the square win", x.best(1, 0), 10);

        says("Promise 24", "NONE: there is none: no board, no plank, none that wins");
        refused(Boundaries::busy, NONE, "best(0, 0)", (y, v) -> y.best(0, 0));
        refused(Boundaries::busy, NONE, "best(4, 0), no plank", (y, v) -> y.best(4, 0));
        refused(Boundaries::sixPlanks, NONE, "best(63, 1), planks of ALONG alone", (y, v) -> y.best(63, 1));
        Setting each = y -> {
            y.row(0, 0, 3);
            y.row(1, 0, 1);
            y.row(1, 1, 1);
        };
        refused(each, NONE, new int[] {0, 1}, "best(3, ?), a plank of each", (y, v) -> y.best(3, v));

        says("Promise 24", "NUMBER as beginner(): boards isn't 0 .. 63");
        x = benchIn(Boundaries::sixPlanks);
        due("best(63, 0)", x.best(63, 0), 14);
        due("best(0, 0)", x.best(0, 0), NONE);
        refused(Boundaries::sixPlanks, NUMBER, outside(0, 63), "best(?, 0)", (y, v) -> y.best(v, 0));

        says("Promise 24", "NUMBER as beginner(): who not 0, 1");
        refused(Boundaries::sixPlanks, NUMBER, outside(0, 1), "best(63, ?)", (y, v) -> y.best(63, v));

        says("Promise 24", "LARGE as beginner(): more than 12 fields of these are FREE together");
        x = benchIn(Boundaries::thirteenFields);
        due("best(62, 0), eleven of thirteen", x.best(62, 0), 30);
        x.row(0, 3, 4);
        due("best(63, 0), twelve", x.best(63, 0), 30);
        refused(Boundaries::thirteenFields, LARGE, new int[] {0, 1}, "best(63, ?)", (y, v) -> y.best(63, v));
        refused(Boundaries::fillAll, LARGE, new int[] {1, 32, 63}, "best(?, 0)", (y, v) -> y.best(v, 0));

        says("Promise 24", "NUMBER ahead of LARGE, LARGE ahead of NONE");
        refused(Boundaries::fillAll, NUMBER, outside(0, 63), "best(?, 0)", (y, v) -> y.best(v, 0));
        refused(Boundaries::fillAll, NUMBER, outside(0, 1), "best(63, ?)", (y, v) -> y.best(63, v));
        refused(Boundaries::noPlanks, LARGE, new int[] {0, 1}, "best(3, ?), no plank", (y, v) -> y.best(3, v));
        refused(Boundaries::noPlanks, NONE, new int[] {0, 1}, "best(1, ?), no plank", (y, v) -> y.best(1, v));
    }

    public static void main(String[] args) {
        use();
        termsOfBoards();
        termsOfGames();
        termsOfKinds();
        aNewObject();
        row();
        lookAtBoards();
        lay();
        lift();
        quarter();
        worth();
        number();
        up();
        game();
        add();
        turn();
        option();
        toldAndCompared();
        values();
        beginner();
        best();
        System.out.println(wrong == 0 ? sentences + " sentences are kept" : wrong + " answers are not as due");
        if (wrong != 0) System.exit(1);
    }
}
