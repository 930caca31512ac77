/**
 * The promises one by one: ordinary inputs, the edges that the document names, and wrong inputs.
 * Every answer that is due here was found by hand.
 */
public final class Promises {
    private static final int NUMBER = -1;
    private static final int KIND = -2;
    private static final int LARGE = -3;
    private static final int NONE = -4;
    private static final int NOT_TOLD = -1000000;
    private static final int[] NO_BOARD = {-1, 6, 7, Integer.MIN_VALUE, Integer.MAX_VALUE};
    private static final int[] NO_SPOT = {-1, 10, 11, 1000, Integer.MIN_VALUE, Integer.MAX_VALUE};
    private static final int[] NO_SIDE = {-1, 2, 3, Integer.MIN_VALUE, Integer.MAX_VALUE};

    private static int promise = 0;
    private static int wrong = 0;

    private static void due(String call, int got, int want) {
        if (got != want) {
            wrong++;
            System.out.println("promise " + promise + ": " + call + " answered " + got + ", due is " + want);
        }
    }

    private static void due(String call, boolean got, boolean want) {
        due(call, got ? 1 : 0, want ? 1 : 0);
    }

    /** A board as four rows of bits, bit c of column c. */
    private static void board(PlankBench x, int b, int r0, int r1, int r2, int r3) {
        x.row(b, 0, r0);
        x.row(b, 1, r1);
        x.row(b, 2, r2);
        x.row(b, 3, r3);
    }

    private static int mask(PlankBench x, int b) {
        int mask = 0;
        for (int f = 0; f < 16; f++) mask |= (x.field(b, f) ? 1 : 0) << f;
        return mask;
    }

    /** SIZE, DEEP, how many LEFT, how many RIGHT ones, KIND. */
    private static void told(PlankBench x, int a, int size, int deep, int lefts, int rights, int kind) {
        int[] want = {size, deep, lefts, rights, kind};
        for (int what = 0; what < 5; what++) due("told(" + a + ", " + what + ")", x.told(a, what), want[what]);
    }

    private static void isNumber(PlankBench x, int a, int n, int k) {
        due("told(" + a + ", 4)", x.told(a, 4), 1);
        due("value(" + a + ", 0)", x.value(a, 0), n);
        due("value(" + a + ", 1)", x.value(a, 1), k);
    }

    private static void isUps(PlankBench x, int a, int j, int star) {
        due("told(" + a + ", 4)", x.told(a, 4), 3);
        due("ups(" + a + ", 0)", x.ups(a, 0), j);
        due("ups(" + a + ", 1)", x.ups(a, 1), star);
    }

    /** The whole number n, 0 .. 150, put together from smaller ones; spot 9 is used for it. */
    private static void whole(PlankBench x, int n, int to) {
        x.number(0, 0, to);
        x.number(8, 0, 9);
        for (int rest = n; rest > 0; rest -= Math.min(rest, step(n - rest))) {
            x.number(Math.min(rest, step(n - rest)), 0, 9);
            x.add(to, 9, to);
        }
    }

    /** How much may be added to a whole number without the product of the SIZES going above 300. */
    private static int step(int sum) {
        return Math.min(8, 300 / (sum + 1) - 1);
    }

    private static void aNewObject() {
        PlankBench x = new PlankBench();
        for (int b = 0; b < 6; b++) {
            for (int f = 0; f < 16; f++) due("field(" + b + ", " + f + ")", x.field(b, f), false);
            due("fields", x.fields(b), 0);
            due("parts", x.parts(b), 0);
            due("moves", x.moves(b, 0), 0);
            due("moves", x.moves(b, 1), 0);
            due("lift", x.lift(b), NONE);
        }
        for (int a = 0; a < 10; a++) {
            told(x, a, 1, 0, 0, 0, 1);
            isNumber(x, a, 0, 0);
            due("wins", x.wins(a), 0);
        }
        due("beginner", x.beginner(63, 0), 0);
        due("best", x.best(63, 1), NONE);
        PlankBench y = new PlankBench();
        x.row(0, 0, 15);
        x.number(3, 0, 0);
        due("fields of another object", y.fields(0), 0);
        due("told of another object", y.told(0, 0), 1);
        due("NUMBER", PlankBench.NUMBER, NUMBER);
        due("KIND", PlankBench.KIND, KIND);
        due("LARGE", PlankBench.LARGE, LARGE);
        due("NONE", PlankBench.NONE, NONE);
    }

    private static void row() {
        PlankBench x = new PlankBench();
        due("row(0, 0, 5)", x.row(0, 0, 5), 2);
        due("the mask", mask(x, 0), 5);
        due("row(0, 3, 15)", x.row(0, 3, 15), 6);
        due("the mask", mask(x, 0), 0xF005);
        due("row(0, 0, 8)", x.row(0, 0, 8), 5);
        due("the mask", mask(x, 0), 0xF008);
        due("row(0, 3, 0)", x.row(0, 3, 0), 1);
        due("row(5, 2, 9)", x.row(5, 2, 9), 2);
        due("the mask of 5", mask(x, 5), 0x0900);
        due("the mask of 0", mask(x, 0), 8);
        board(x, 1, 15, 15, 15, 15);
        due("the mask of 1", mask(x, 1), 0xFFFF);
        x.lay(1, 0, 0);
        x.lay(1, 4, 0);
        for (int b : NO_BOARD) due("row(" + b + ", 0, 0)", x.row(b, 0, 0), NUMBER);
        for (int r : new int[] {-1, 4, 5, Integer.MIN_VALUE, Integer.MAX_VALUE}) due("row(1, " + r + ", 0)", x.row(1, r, 0), NUMBER);
        for (int bits : new int[] {-1, 16, 17, Integer.MIN_VALUE, Integer.MAX_VALUE}) due("row(1, 0, " + bits + ")", x.row(1, 0, bits), NUMBER);
        due("the mask, refused", mask(x, 1), 0xFFCC);
        due("lift behind refusals", x.lift(1), 4);
        due("row(1, 3, 15) as it was", x.row(1, 3, 15), 14);
        due("lift behind row", x.lift(1), NONE);
        x.lay(2, 0, 0);
        x.row(2, 0, 3);
        x.lay(2, 0, 0);
        x.row(1, 0, 15);
        due("lift of another board", x.lift(2), 0);
    }

    private static void field() {
        PlankBench x = new PlankBench();
        board(x, 3, 1, 2, 4, 8);
        for (int f = 0; f < 16; f++) due("field(3, " + f + ")", x.field(3, f), f % 5 == 0);
        for (int f = 0; f < 16; f++) due("field(2, " + f + ")", x.field(2, f), false);
        board(x, 0, 15, 15, 15, 15);
        board(x, 5, 15, 15, 15, 15);
        for (int f : new int[] {-1, 16, 17, 32, -16, Integer.MIN_VALUE, Integer.MAX_VALUE}) {
            due("field(0, " + f + ")", x.field(0, f), false);
        }
        for (int b : NO_BOARD) due("field(" + b + ", 0)", x.field(b, 0), false);
        x.lay(0, 5, 1);
        due("field(0, 5) laid", x.field(0, 5), false);
        due("field(0, 9) laid", x.field(0, 9), false);
        due("field(0, 6) laid", x.field(0, 6), true);
    }

    private static void fields() {
        PlankBench x = new PlankBench();
        board(x, 4, 15, 7, 3, 1);
        due("fields(4)", x.fields(4), 10);
        x.lay(4, 0, 0);
        due("fields(4) laid", x.fields(4), 8);
        x.lift(4);
        due("fields(4) lifted", x.fields(4), 10);
        due("fields(3)", x.fields(3), 0);
        for (int b : NO_BOARD) due("fields(" + b + ")", x.fields(b), NUMBER);
    }

    private static void parts() {
        PlankBench x = new PlankBench();
        due("parts, none", x.parts(0), 0);
        board(x, 0, 5, 10, 5, 10);
        due("parts by corners", x.parts(0), 8);
        board(x, 0, 15, 15, 15, 15);
        due("parts, all", x.parts(0), 1);
        board(x, 0, 8, 1, 0, 0);
        due("parts across the row's end", x.parts(0), 2);
        board(x, 0, 15, 8, 15, 1);
        due("parts, a snake", x.parts(0), 1);
        board(x, 0, 9, 15, 0, 6);
        due("parts, two", x.parts(0), 2);
        board(x, 0, 15, 9, 9, 15);
        due("parts, a ring", x.parts(0), 1);
        board(x, 0, 11, 11, 10, 14);
        due("parts, a hook", x.parts(0), 1);
        board(x, 0, 11, 9, 13, 4);
        due("parts, two hooks", x.parts(0), 2);
        board(x, 0, 1, 1, 0, 9);
        due("parts, three", x.parts(0), 3);
        for (int b : NO_BOARD) due("parts(" + b + ")", x.parts(b), NUMBER);
    }

    private static void moves() {
        PlankBench x = new PlankBench();
        board(x, 0, 15, 15, 15, 15);
        due("moves(0, 0)", x.moves(0, 0), 12);
        due("moves(0, 1)", x.moves(0, 1), 12);
        board(x, 1, 8, 1, 0, 0);
        due("moves round the row's end", x.moves(1, 0), 0);
        board(x, 1, 15, 9, 0, 0);
        due("moves(1, 0)", x.moves(1, 0), 3);
        due("moves(1, 1)", x.moves(1, 1), 2);
        x.lay(1, 0, 1);
        due("moves(1, 0) laid", x.moves(1, 0), 2);
        due("moves(1, 1) laid", x.moves(1, 1), 1);
        for (int b : NO_BOARD) due("moves(" + b + ", 0)", x.moves(b, 0), NUMBER);
        for (int who : NO_SIDE) due("moves(0, " + who + ")", x.moves(0, who), NUMBER);
    }

    private static void lay() {
        PlankBench x = new PlankBench();
        board(x, 0, 15, 15, 15, 15);
        for (int f = 0; f < 16; f += 2) due("lay(0, " + f + ", 0)", x.lay(0, f, 0), f / 2 + 1);
        due("fields, all laid", x.fields(0), 0);
        due("lay, none FREE", x.lay(0, 0, 1), KIND);
        for (int f = 14; f >= 0; f -= 2) due("lift, one of eight", x.lift(0), f);
        due("the mask, all lifted", mask(x, 0), 0xFFFF);
        board(x, 1, 15, 15, 15, 15);
        for (int f : new int[] {3, 7, 11, 15}) due("lay(1, " + f + ", 0)", x.lay(1, f, 0), KIND);
        for (int f : new int[] {12, 13, 14, 15}) due("lay(1, " + f + ", 1)", x.lay(1, f, 1), KIND);
        due("lay(1, 2, 0)", x.lay(1, 2, 0), 1);
        due("the mask", mask(x, 1), 0xFFF3);
        due("lay(1, 1, 0), half FREE", x.lay(1, 1, 0), KIND);
        due("lay(1, 3, 1), half FREE", x.lay(1, 3, 1), KIND);
        due("lay(1, 11, 1)", x.lay(1, 11, 1), 2);
        due("the mask", mask(x, 1), 0x77F3);
        due("lay(1, 7, 1), half FREE", x.lay(1, 7, 1), KIND);
        for (int b : NO_BOARD) due("lay(" + b + ", 0, 0)", x.lay(b, 0, 0), NUMBER);
        for (int who : NO_SIDE) due("lay(1, 0, " + who + ")", x.lay(1, 0, who), NUMBER);
        for (int f : new int[] {-1, 16, Integer.MIN_VALUE, Integer.MAX_VALUE}) due("lay(1, " + f + ", 0)", x.lay(1, f, 0), NUMBER);
        due("NUMBER ahead of KIND", x.lay(1, 3, 2), NUMBER);
        due("the mask, refused", mask(x, 1), 0x77F3);
        due("lay behind refusals", x.lay(1, 0, 1), 3);
    }

    private static void lift() {
        PlankBench x = new PlankBench();
        board(x, 0, 15, 15, 15, 15);
        due("lift, none laid", x.lift(0), NONE);
        x.lay(0, 5, 1);
        x.lay(0, 0, 0);
        x.lay(0, 10, 0);
        due("lift", x.lift(0), 10);
        due("lay behind lift", x.lay(0, 10, 1), 3);
        due("lift", x.lift(0), 10);
        due("the mask", mask(x, 0), 0xFDDC);
        due("lift", x.lift(0), 0);
        due("lift", x.lift(0), 5);
        due("the mask", mask(x, 0), 0xFFFF);
        due("lift, no more", x.lift(0), NONE);
        board(x, 1, 3, 0, 0, 0);
        x.lay(1, 0, 0);
        due("lift of another board", x.lift(0), NONE);
        due("lift(1)", x.lift(1), 0);
        for (int b : NO_BOARD) due("lift(" + b + ")", x.lift(b), NUMBER);
    }

    private static void quarter() {
        PlankBench x = new PlankBench();
        board(x, 0, 3, 0, 0, 1);
        due("quarter(0, 1)", x.quarter(0, 1), 3);
        due("the mask", mask(x, 1), 1 << 3 | 1 << 7 | 1 << 0);
        due("the mask of 0", mask(x, 0), 0x1003);
        due("quarter(1, 1)", x.quarter(1, 1), 3);
        due("the mask, twice", mask(x, 1), 1 << 15 | 1 << 14 | 1 << 3);
        x.quarter(1, 1);
        x.quarter(1, 2);
        due("the mask, four times", mask(x, 2), 0x1003);
        x.lay(0, 0, 0);
        x.lay(2, 0, 0);
        for (int b : NO_BOARD) {
            due("quarter(" + b + ", 2)", x.quarter(b, 2), NUMBER);
            due("quarter(2, " + b + ")", x.quarter(2, b), NUMBER);
        }
        due("the mask, refused", mask(x, 2), 0x1000);
        due("lift, refused", x.lift(2), 0);
        x.lay(2, 0, 0);
        due("quarter(0, 2)", x.quarter(0, 2), 1);
        due("lift of what became another", x.lift(2), NONE);
        due("lift of what was turned", x.lift(0), 0);
        x.lay(0, 0, 0);
        due("quarter(0, 0)", x.quarter(0, 0), 1);
        due("lift of what was turned in place", x.lift(0), NONE);
        due("the mask, in place", mask(x, 0), 1);
    }

    private static void worth() {
        PlankBench x = new PlankBench();
        due("worth, none FREE", x.worth(0, 0), 1);
        board(x, 0, 15, 0, 0, 0);
        due("worth, a row", x.worth(0, 0), 3);
        isNumber(x, 0, 2, 0);
        board(x, 0, 1, 1, 1, 0);
        due("worth, a column of three", x.worth(0, 0), 2);
        isNumber(x, 0, -1, 0);
        board(x, 0, 3, 1, 0, 0);
        due("worth, a corner", x.worth(0, 0), 2);
        isUps(x, 0, 0, 1);
        board(x, 0, 3, 3, 0, 0);
        due("worth, a square", x.worth(0, 0), 4);
        told(x, 0, 4, 2, 1, 1, 2);
        board(x, 0, 7, 2, 0, 0);
        due("worth, a T", x.worth(0, 0), 2);
        isUps(x, 0, 0, 1);
        // ALONG leaves 1, -1 or STAR, of which 1 is the best; ACROSS leaves 1.
        board(x, 0, 15, 1, 0, 0);
        due("worth, an L", x.worth(0, 0), 3);
        told(x, 0, 3, 2, 1, 1, 0);
        board(x, 0, 5, 10, 5, 10);
        due("worth, no plank", x.worth(0, 0), 1);
        board(x, 1, 15, 0, 15, 3);
        due("worth, ten fields", x.worth(1, 9) > 0, true);
        due("fields behind worth", x.fields(1), 10);
        board(x, 1, 15, 0, 15, 7);
        x.number(3, 0, 2);
        due("worth, eleven fields", x.worth(1, 2), LARGE);
        isNumber(x, 2, 3, 0);
        for (int b : NO_BOARD) due("worth(" + b + ", 2)", x.worth(b, 2), NUMBER);
        for (int s : NO_SPOT) due("worth(0, " + s + ")", x.worth(0, s), NUMBER);
        due("NUMBER ahead of LARGE", x.worth(1, 10), NUMBER);
        isNumber(x, 2, 3, 0);
        x.lay(1, 0, 0);
        due("worth with a plank laid", x.worth(1, 2) > 0, true);
        due("lift behind worth", x.lift(1), 0);
    }

    private static void number() {
        PlankBench x = new PlankBench();
        due("number(0, 0, 0)", x.number(0, 0, 0), 1);
        due("number(0, 3, 0)", x.number(0, 3, 0), 1);
        due("number(1, 3, 0)", x.number(1, 3, 0), 5);
        isNumber(x, 0, 1, 3);
        due("number(6, 2, 0)", x.number(6, 2, 0), 4);
        isNumber(x, 0, 3, 1);
        due("number(-1, 1, 0)", x.number(-1, 1, 0), 3);
        isNumber(x, 0, -1, 1);
        due("number(63, 3, 0)", x.number(63, 3, 0), 12);
        isNumber(x, 0, 63, 3);
        due("number(-63, 3, 0)", x.number(-63, 3, 0), 12);
        isNumber(x, 0, -63, 3);
        for (int k = 0; k < 4; k++) {
            for (int n = -(8 << k); n <= 8 << k; n++) numberOfParts(n, k);
            due("above 8", x.number((8 << k) + 1, k, 0), NUMBER);
            due("below -8", x.number(-(8 << k) - 1, k, 0), NUMBER);
            due("far above", x.number(Integer.MAX_VALUE, k, 0), NUMBER);
            due("far below", x.number(Integer.MIN_VALUE, k, 0), NUMBER);
        }
        for (int k : new int[] {-1, 4, 32, 35, Integer.MIN_VALUE, Integer.MAX_VALUE}) due("k " + k, x.number(0, k, 0), NUMBER);
        for (int s : NO_SPOT) due("spot " + s, x.number(1, 0, s), NUMBER);
        isNumber(x, 0, -63, 3);
    }

    private static void numberOfParts(int n, int k) {
        PlankBench x = new PlankBench();
        int m = n;
        int l = k;
        while (l > 0 && m % 2 == 0) {
            m /= 2;
            l--;
        }
        due("number(" + n + ", " + k + ", 1)", x.number(n, k, 1) > 0, true);
        isNumber(x, 1, m, l);
    }

    private static void up() {
        PlankBench x = new PlankBench();
        due("up(0, false, 0)", x.up(0, false, 0), 1);
        isNumber(x, 0, 0, 0);
        due("up(0, true, 0)", x.up(0, true, 0), 2);
        due("up(1, true, 0)", x.up(1, true, 0), 3);
        told(x, 0, 3, 2, 2, 1, 3);
        due("up(-1, true, 0)", x.up(-1, true, 0), 3);
        told(x, 0, 3, 2, 1, 2, 3);
        // One UP less with the other STAR, each: five below 6 UPS, then STAR, NOUGHT.
        due("up(6, false, 0)", x.up(6, false, 0), 8);
        due("up(6, true, 0)", x.up(6, true, 0), 8);
        due("up(5, false, 0)", x.up(5, false, 0), 7);
        for (int j = -6; j <= 6; j++) {
            x.up(j, true, 1);
            isUps(x, 1, j, 1);
            x.up(j, false, 2);
            if (j != 0) isUps(x, 2, j, 0);
            x.up(0, true, 3);
            x.add(2, 3, 4);
            due("UPS and STAR", x.compare(1, 4), 0);
            due("who wins UPS", x.wins(2), j > 0 ? 1 : j < 0 ? 2 : 0);
        }
        x.up(0, false, 5);
        for (int j = 1; j <= 6; j++) {
            x.up(1, false, 6);
            x.add(5, 6, 5);
            x.up(j, false, 7);
            due("j times UP", x.compare(5, 7), 0);
        }
        for (int j : new int[] {-7, 7, Integer.MIN_VALUE, Integer.MAX_VALUE}) due("up(" + j + ")", x.up(j, false, 5), NUMBER);
        for (int s : NO_SPOT) due("spot " + s, x.up(0, true, s), NUMBER);
        isUps(x, 5, 6, 0);
    }

    private static void game() {
        PlankBench x = new PlankBench();
        x.number(1, 0, 1);
        x.number(2, 0, 2);
        x.number(-1, 0, 3);
        x.up(0, true, 4);
        x.up(1, false, 5);
        x.up(-1, false, 6);
        due("no LEFT, no RIGHT ones", x.game(0, 0, 0), 1);
        due("NOUGHT and 1 to the left", x.game(3, 0, 7), 3);
        isNumber(x, 7, 2, 0);
        due("1 and 2 to the right", x.game(1, 6, 7), 3);
        isNumber(x, 7, 1, 1);
        due("-1 and 2", x.game(8, 4, 7), 1);
        due("1, and -1 and 2", x.game(2, 12, 7), 4);
        told(x, 7, 4, 2, 1, 1, 2);
        due("STAR and STAR", x.game(16, 16, 7), 1);
        due("UP and UP TURNED", x.game(32, 64, 7), 2);
        isUps(x, 7, 0, 1);
        due("NOUGHT, STAR and NOUGHT", x.game(17, 1, 7), 3);
        isUps(x, 7, 1, 1);
        due("into one of its own", x.game(1, 16, 4), 3);
        isUps(x, 4, 1, 0);
        for (int set : new int[] {-1, 1024, Integer.MIN_VALUE, Integer.MAX_VALUE}) {
            due("lefts " + set, x.game(set, 0, 4), NUMBER);
            due("rights " + set, x.game(0, set, 4), NUMBER);
        }
        for (int s : NO_SPOT) due("spot " + s, x.game(0, 0, s), NUMBER);
        due("all SPOTS", x.game(1023, 1023, 9) > 0, true);
        isUps(x, 4, 1, 0);
        gameTooLarge();
    }

    private static void gameTooLarge() {
        PlankBench x = new PlankBench();
        whole(x, 20, 0);
        for (int s = 1; s < 7; s++) x.add(0, 8, s);
        x.number(5, 0, 7);
        // Seven SPOTS of SIZE 21, each on both sides, and one of SIZE 6: 300 together.
        due("300 together", x.game(255, 127, 8), 22);
        told(x, 8, 22, 21, 1, 1, 0);
        x.number(6, 0, 7);
        due("301 together", x.game(255, 127, 9), LARGE);
        due("301 together, the other way", x.game(127, 255, 9), LARGE);
        due("21 DEEP to the left", x.game(256, 0, 9), LARGE);
        due("21 DEEP to the right", x.game(0, 256, 9), LARGE);
        due("NUMBER ahead of LARGE", x.game(256, 1024, 9), NUMBER);
        due("NUMBER ahead of LARGE", x.game(256, 0, 10), NUMBER);
        isNumber(x, 9, 4, 0);
        due("20 DEEP", x.game(1, 0, 9), 22);
        isNumber(x, 9, 21, 0);
        due("into a spot 21 DEEP", x.game(0, 0, 9), 1);
    }

    private static void add() {
        PlankBench x = new PlankBench();
        x.number(3, 2, 0);
        x.number(-11, 3, 1);
        due("add(0, 1, 2)", x.add(0, 1, 2), 5);
        isNumber(x, 2, -5, 3);
        board(x, 0, 3, 3, 0, 0);
        x.worth(0, 3);
        due("a SWITCH twice", x.add(3, 3, 4), 1);
        x.number(1, 0, 5);
        due("a SWITCH and 1", x.add(3, 5, 6), 4);
        due("its LEFT STOP", x.stop(6, 0, 0), 2);
        due("its RIGHT STOP", x.stop(6, 1, 0), 0);
        due("in place", x.add(5, 5, 5), 3);
        isNumber(x, 5, 2, 0);
        due("the source stays", x.value(0, 0), 3);
        for (int s : NO_SPOT) {
            due("add(" + s + ", 0, 0)", x.add(s, 0, 0), NUMBER);
            due("add(0, " + s + ", 0)", x.add(0, s, 0), NUMBER);
            due("add(0, 0, " + s + ")", x.add(0, 0, s), NUMBER);
        }
        whole(x, 14, 0);
        whole(x, 19, 1);
        due("15 times 20", x.add(0, 1, 2), 34);
        isNumber(x, 2, 33, 0);
        whole(x, 42, 3);
        x.number(6, 0, 4);
        due("43 times 7", x.add(3, 4, 2), LARGE);
        due("7 times 43", x.add(4, 3, 2), LARGE);
        due("NUMBER ahead of LARGE", x.add(4, 3, 10), NUMBER);
        isNumber(x, 2, 33, 0);
        whole(x, 150, 5);
        isNumber(x, 5, 150, 0);
        told(x, 5, 151, 150, 1, 0, 1);
        x.turn(5, 6);
        isNumber(x, 6, -150, 0);
        x.up(6, true, 0);
        x.up(6, true, 1);
        x.add(0, 1, 2);
        x.add(2, 2, 2);
        isUps(x, 2, 24, 0);
        x.add(2, 0, 2);
        isUps(x, 2, 30, 1);
        x.turn(2, 2);
        isUps(x, 2, -30, 1);
    }

    private static void turn() {
        PlankBench x = new PlankBench();
        due("NOUGHT", x.turn(0, 1), 1);
        x.number(5, 2, 0);
        due("turn(0, 1)", x.turn(0, 1), x.told(0, 0));
        isNumber(x, 1, -5, 2);
        isNumber(x, 0, 5, 2);
        due("in place", x.turn(1, 1), x.told(0, 0));
        isNumber(x, 1, 5, 2);
        x.up(2, true, 2);
        x.turn(2, 3);
        isUps(x, 3, -2, 1);
        x.up(0, true, 4);
        x.turn(4, 5);
        isUps(x, 5, 0, 1);
        x.number(2, 0, 6);
        x.number(-3, 0, 7);
        x.game(64, 128, 6);
        x.turn(6, 7);
        due("LEFT STOP", x.stop(7, 0, 0), 3);
        due("RIGHT STOP", x.stop(7, 1, 0), -2);
        for (int s : NO_SPOT) {
            due("turn(" + s + ", 0)", x.turn(s, 0), NUMBER);
            due("turn(0, " + s + ")", x.turn(0, s), NUMBER);
        }
        isNumber(x, 0, 5, 2);
    }

    private static void option() {
        PlankBench x = new PlankBench();
        x.number(5, 2, 0);
        due("LEFT of 5 / 4", x.option(0, 0, 0, 1), 2);
        isNumber(x, 1, 1, 0);
        due("RIGHT of 5 / 4", x.option(0, 1, 0, 1), 4);
        isNumber(x, 1, 3, 1);
        x.up(1, true, 2);
        due("the first LEFT one by DEEP", x.option(2, 0, 0, 3), 1);
        due("the second LEFT one by DEEP", x.option(2, 0, 1, 3), 2);
        isUps(x, 3, 0, 1);
        due("no third one", x.option(2, 0, 2, 3), NONE);
        due("no second RIGHT one", x.option(2, 1, 1, 3), NONE);
        for (int i : new int[] {-1, Integer.MIN_VALUE, Integer.MAX_VALUE}) due("one " + i, x.option(2, 0, i, 3), NONE);
        isUps(x, 3, 0, 1);
        for (int s : NO_SPOT) {
            due("option(" + s + ", ..)", x.option(s, 0, 0, 3), NUMBER);
            due("option(.., " + s + ")", x.option(2, 0, 0, s), NUMBER);
        }
        for (int side : NO_SIDE) due("side " + side, x.option(2, side, 0, 3), NUMBER);
        due("NUMBER ahead of NONE", x.option(2, 0, 9, 10), NUMBER);
        due("in place", x.option(2, 0, 1, 2), 2);
        isUps(x, 2, 0, 1);
        optionsInOrder();
    }

    /**
     * LEFT ones of which none is AT LEAST another: 1 with STAR (2 DEEP), the SWITCHES of 3 and 0
     * (4 DEEP), of 5 and -2, of 7 / 2 and -1 (6 DEEP both). 5 is ahead of 7 / 2, as it has no RIGHT
     * one; TURNED, -1 TURNED is ahead of -2 TURNED, as it is less DEEP.
     */
    private static void optionsInOrder() {
        PlankBench x = new PlankBench();
        x.number(7, 1, 8);
        x.number(-1, 0, 9);
        x.game(256, 512, 0);
        switchOf(x, 5, -2, 1);
        switchOf(x, 3, 0, 2);
        switchOf(x, 1, 1, 3);
        whole(x, 10, 4);
        x.turn(4, 4);
        x.game(15, 16, 5);
        due("LEFT ones", x.told(5, 2), 4);
        due("RIGHT ones", x.told(5, 3), 1);
        x.turn(5, 6);
        due("RIGHT ones, TURNED", x.told(6, 3), 4);
        int[][] stops = {{1, 1}, {3, 0}, {5, -2}, {7, -1}};
        int[][] turned = {{-1, -1}, {0, -3}, {1, -7}, {2, -5}};
        for (int i = 0; i < 4; i++) {
            x.option(5, 0, i, 7);
            due("LEFT STOP of " + i, x.stop(7, 0, 0), stops[i][0]);
            due("RIGHT STOP of " + i, x.stop(7, 1, 0), stops[i][1]);
            x.option(6, 1, i, 7);
            due("LEFT STOP of " + i + ", TURNED", x.stop(7, 0, 0), turned[i][0]);
            due("RIGHT STOP of " + i + ", TURNED", x.stop(7, 1, 0), turned[i][1]);
        }
    }

    private static void switchOf(PlankBench x, int left, int right, int to) {
        x.number(left, 0, 8);
        x.number(right, 0, 9);
        x.game(256, 512, to);
    }

    private static void told() {
        PlankBench x = new PlankBench();
        x.number(3, 2, 0);
        told(x, 0, 4, 3, 1, 1, 1);
        x.number(-4, 0, 0);
        told(x, 0, 5, 4, 0, 1, 1);
        switchOf(x, 3, 1, 1);
        told(x, 1, 5, 4, 1, 1, 2);
        switchOf(x, 1, 1, 2);
        told(x, 2, 3, 2, 1, 1, 0);
        x.number(0, 0, 8);
        x.game(256, 256, 2);
        told(x, 2, 2, 1, 1, 1, 3);
        x.up(1, true, 3);
        told(x, 3, 3, 2, 2, 1, 3);
        // NOUGHT and STAR on both sides: as the game of two tokens, of no KIND.
        x.up(0, true, 4);
        x.game(272, 272, 5);
        told(x, 5, 3, 2, 2, 2, 0);
        // NOUGHT to the left, 1 ahead of a loss of 1 to the right: no SWITCH, no UP.
        switchOf(x, 0, -1, 6);
        x.number(0, 0, 8);
        x.game(256, 64, 6);
        told(x, 6, 4, 3, 1, 1, 0);
        for (int what : new int[] {-1, 5, 6, Integer.MIN_VALUE, Integer.MAX_VALUE}) due("what " + what, x.told(0, what), NUMBER);
        for (int s : NO_SPOT) due("spot " + s, x.told(s, 0), NUMBER);
    }

    private static void compare() {
        PlankBench x = new PlankBench();
        x.number(1, 0, 1);
        x.up(1, false, 2);
        x.up(0, true, 3);
        x.up(2, false, 4);
        switchOf(x, 1, -1, 5);
        x.number(2, 0, 6);
        int[][] want = {
            {0, 2, 2, 3, 2, 3, 2},
            {1, 0, 1, 1, 1, 3, 2},
            {1, 2, 0, 3, 2, 3, 2},
            {3, 2, 3, 0, 2, 3, 2},
            {1, 2, 1, 1, 0, 3, 2},
            {3, 3, 3, 3, 3, 0, 2},
            {1, 1, 1, 1, 1, 1, 0},
        };
        for (int a = 0; a < 7; a++) {
            for (int b = 0; b < 7; b++) due("compare(" + a + ", " + b + ")", x.compare(a, b), want[a][b]);
        }
        for (int s : NO_SPOT) {
            due("compare(" + s + ", 0)", x.compare(s, 0), NUMBER);
            due("compare(0, " + s + ")", x.compare(0, s), NUMBER);
        }
        whole(x, 150, 7);
        x.turn(7, 8);
        due("both of SIZE 151", x.compare(7, 8), 1);
        due("both of SIZE 151", x.compare(8, 7), 2);
        due("both of SIZE 151", x.compare(7, 7), 0);
        due("against a SWITCH", x.compare(7, 5), 1);
    }

    private static void wins() {
        PlankBench x = new PlankBench();
        due("NOUGHT", x.wins(0), 0);
        x.number(1, 3, 0);
        due("1 / 8", x.wins(0), 1);
        x.number(-1, 3, 0);
        due("-1 / 8", x.wins(0), 2);
        x.up(1, false, 0);
        due("UP", x.wins(0), 1);
        x.up(-1, false, 0);
        due("UP TURNED", x.wins(0), 2);
        x.up(0, true, 0);
        due("STAR", x.wins(0), 3);
        x.up(1, true, 0);
        due("UP and STAR", x.wins(0), 3);
        x.up(2, true, 0);
        due("two UP and STAR", x.wins(0), 1);
        x.up(-2, true, 0);
        due("two UP TURNED and STAR", x.wins(0), 2);
        switchOf(x, 2, -3, 0);
        due("2 and -3", x.wins(0), 3);
        switchOf(x, 2, 0, 0);
        due("2 and 0", x.wins(0), 3);
        switchOf(x, 3, 1, 0);
        due("3 and 1", x.wins(0), 1);
        switchOf(x, -1, -3, 0);
        due("-1 and -3", x.wins(0), 2);
        for (int s : NO_SPOT) due("spot " + s, x.wins(s), NUMBER);
    }

    private static void value() {
        PlankBench x = new PlankBench();
        x.number(-20, 3, 0);
        due("n", x.value(0, 0), -5);
        due("k", x.value(0, 1), 1);
        // NOUGHT and 1 / 2^k make 1 / 2^(k + 1), up to 21 DEEP.
        x.number(1, 3, 1);
        for (int k = 4; k <= 20; k++) {
            due("SIZE of 1 / 2^" + k, x.game(8, 2, 1), k + 2);
            isNumber(x, 1, 1, k);
        }
        due("21 DEEP", x.game(8, 2, 1), LARGE);
        x.number(8, 0, 2);
        x.add(1, 2, 4);
        isNumber(x, 4, 8 * (1 << 20) + 1, 20);
        x.up(1, false, 5);
        due("of UP", x.value(5, 0), NOT_TOLD);
        due("of UP", x.value(5, 1), NOT_TOLD);
        switchOf(x, 1, -1, 5);
        due("of a SWITCH", x.value(5, 0), NOT_TOLD);
        switchOf(x, 1, 1, 5);
        due("of 1 and STAR", x.value(5, 0), NOT_TOLD);
        for (int what : NO_SIDE) due("what " + what, x.value(0, what), NOT_TOLD);
        for (int s : NO_SPOT) due("spot " + s, x.value(s, 0), NOT_TOLD);
    }

    private static void ups() {
        PlankBench x = new PlankBench();
        x.up(4, true, 0);
        isUps(x, 0, 4, 1);
        x.up(-4, false, 0);
        isUps(x, 0, -4, 0);
        due("of NOUGHT", x.ups(1, 0), NOT_TOLD);
        due("of NOUGHT", x.ups(1, 1), NOT_TOLD);
        x.number(1, 0, 1);
        due("of 1", x.ups(1, 0), NOT_TOLD);
        switchOf(x, 1, -1, 1);
        due("of a SWITCH", x.ups(1, 0), NOT_TOLD);
        switchOf(x, 1, 1, 1);
        due("of 1 and STAR", x.ups(1, 1), NOT_TOLD);
        // ACROSS can't gain by UP TURNED: ALONG answers by STAR, which leaves NOUGHT to ACROSS.
        x.up(-1, false, 2);
        x.game(8, 4, 1);
        isUps(x, 1, 0, 1);
        // NOUGHT and STAR on both sides is of no KIND.
        x.game(10, 10, 1);
        due("of NOUGHT, STAR on both sides", x.ups(1, 0), NOT_TOLD);
        due("of NOUGHT, STAR on both sides", x.ups(1, 1), NOT_TOLD);
        x.up(1, false, 4);
        x.up(0, true, 5);
        x.add(4, 5, 6);
        isUps(x, 6, 1, 1);
        x.add(6, 5, 6);
        isUps(x, 6, 1, 0);
        for (int what : NO_SIDE) due("what " + what, x.ups(0, what), NOT_TOLD);
        for (int s : NO_SPOT) due("spot " + s, x.ups(s, 0), NOT_TOLD);
    }

    private static void stop() {
        PlankBench x = new PlankBench();
        x.number(-7, 2, 0);
        for (int side = 0; side < 2; side++) {
            due("a NUMBER's n", x.stop(0, side, 0), -7);
            due("a NUMBER's k", x.stop(0, side, 1), 2);
        }
        switchOf(x, 1, -2, 1);
        x.number(3, 0, 2);
        // 3 to the left, to the right the SWITCH of 1 and -2, in which ALONG answers.
        due("SIZE", x.game(4, 2, 3), 8);
        due("LEFT STOP", x.stop(3, 0, 0), 3);
        due("RIGHT STOP", x.stop(3, 1, 0), 1);
        x.number(1, 1, 8);
        x.number(-5, 3, 9);
        x.game(256, 512, 4);
        due("LEFT STOP's n", x.stop(4, 0, 0), 1);
        due("LEFT STOP's k", x.stop(4, 0, 1), 1);
        due("RIGHT STOP's n", x.stop(4, 1, 0), -5);
        due("RIGHT STOP's k", x.stop(4, 1, 1), 3);
        x.up(3, true, 5);
        for (int side = 0; side < 2; side++) {
            due("n of UPS", x.stop(5, side, 0), 0);
            due("k of UPS", x.stop(5, side, 1), 0);
        }
        for (int side : NO_SIDE) due("side " + side, x.stop(0, side, 0), NOT_TOLD);
        for (int what : NO_SIDE) due("what " + what, x.stop(0, 0, what), NOT_TOLD);
        for (int s : NO_SPOT) due("spot " + s, x.stop(s, 0, 0), NOT_TOLD);
    }

    private static void beginner() {
        PlankBench x = new PlankBench();
        due("no boards", x.beginner(0, 0), 0);
        due("no FREE fields", x.beginner(63, 1), 0);
        board(x, 0, 3, 0, 0, 0);
        due("a plank along", x.beginner(1, 0), 1);
        due("a plank along", x.beginner(1, 1), 0);
        board(x, 1, 1, 1, 0, 0);
        due("one each", x.beginner(3, 0), 0);
        due("one each", x.beginner(3, 1), 0);
        board(x, 2, 3, 3, 0, 0);
        due("one each and a square", x.beginner(7, 0), 1);
        due("one each and a square", x.beginner(7, 1), 1);
        due("other boards don't count", x.beginner(2, 0), 0);
        board(x, 5, 3, 3, 0, 0);
        due("two squares", x.beginner(36, 0), 0);
        due("two squares", x.beginner(36, 1), 0);
        due("twelve fields", x.beginner(39, 0), 0);
        x.row(3, 3, 8);
        due("thirteen fields", x.beginner(47, 0), LARGE);
        due("thirteen fields, not all asked for", x.beginner(46, 0), 0);
        due("nothing is laid", x.fields(5), 4);
        for (int boards : new int[] {-1, 64, Integer.MIN_VALUE, Integer.MAX_VALUE}) due("boards " + boards, x.beginner(boards, 0), NUMBER);
        for (int who : NO_SIDE) due("who " + who, x.beginner(1, who), NUMBER);
        due("NUMBER ahead of LARGE", x.beginner(47, 2), NUMBER);
    }

    private static void best() {
        PlankBench x = new PlankBench();
        due("no boards", x.best(0, 0), NONE);
        board(x, 0, 3, 0, 0, 0);
        board(x, 1, 3, 3, 0, 0);
        // Behind a plank on board 0 the other one takes the square, and wins.
        due("the square first", x.best(3, 0), 16);
        due("the square alone helps", x.best(3, 1), 16);
        due("a plank across, the lesser field", x.best(2, 1), 16);
        due("who can't lay", x.best(1, 1), NONE);
        board(x, 0, 15, 0, 0, 0);
        board(x, 2, 1, 1, 1, 0);
        due("the end of the row, not the middle", x.best(5, 0), 0);
        due("none is enough", x.best(5, 1), NONE);
        board(x, 0, 0, 0, 0, 0);
        board(x, 5, 0, 0, 6, 4);
        // A corner: who begins takes it, along at field 9, across at field 10.
        due("a corner along", x.best(32, 0), 89);
        due("a corner across", x.best(32, 1), 90);
        due("nothing is laid", x.fields(5), 3);
        board(x, 3, 15, 9, 15, 0);
        due("thirteen fields", x.best(40, 0), LARGE);
        due("ten fields", x.best(8, 0) != LARGE, true);
        for (int boards : new int[] {-1, 64, Integer.MIN_VALUE, Integer.MAX_VALUE}) due("boards " + boards, x.best(boards, 0), NUMBER);
        for (int who : NO_SIDE) due("who " + who, x.best(1, who), NUMBER);
        due("NUMBER ahead of LARGE", x.best(40, -1), NUMBER);
    }

    private static void check(int number) {
        promise = number;
        switch (number) {
            case 1 -> aNewObject();
            case 2 -> row();
            case 3 -> field();
            case 4 -> fields();
            case 5 -> parts();
            case 6 -> moves();
            case 7 -> lay();
            case 8 -> lift();
            case 9 -> quarter();
            case 10 -> worth();
            case 11 -> number();
            case 12 -> up();
            case 13 -> game();
            case 14 -> add();
            case 15 -> turn();
            case 16 -> option();
            case 17 -> told();
            case 18 -> compare();
            case 19 -> wins();
            case 20 -> value();
            case 21 -> ups();
            case 22 -> stop();
            case 23 -> beginner();
            default -> best();
        }
    }

    public static void main(String[] args) {
        for (int number = 1; number <= 24; number++) check(number);
        System.out.println(wrong == 0 ? "all promises are kept" : wrong + " answers are not as due");
        if (wrong != 0) System.exit(1);
    }
}
