import java.util.Random;

/**
 * Answers of unlike promises held against each other: what the document's terms make of one must fit
 * the other. No model works out what is due here, so none can be wrong in the same way as the class.
 */
public final class AgainstEachOther {
    private static int wrong = 0;
    private static int checks = 0;

    private static void due(String what, int got, int want, int... about) {
        checks++;
        if (got != want) {
            wrong++;
            if (wrong <= 50) System.out.println(what + java.util.Arrays.toString(about) + ": " + got + ", due is " + want);
        }
    }

    private static void put(PlankBench x, int b, int free) {
        for (int r = 0; r < 4; r++) x.row(b, r, free >> 4 * r & 15);
    }

    private static PlankBench bench(int... boards) {
        PlankBench x = new PlankBench();
        for (int b = 0; b < boards.length; b++) put(x, b, boards[b]);
        return x;
    }

    /** What wins() is to answer, by who wins when beginning. */
    private static int byPlay(PlankBench x, int boards) {
        return x.beginner(boards, 0) + 2 * x.beginner(boards, 1);
    }

    private static void same(String what, PlankBench x, int a, int b, int... about) {
        due(what + ", compared", x.compare(a, b), 0, about);
        for (int told = 0; told < 5; told++) due(what + ", told " + told, x.told(a, told), x.told(b, told), about);
    }

    /** Promises 10, 19, 23: a board's GAME is won by who wins the board by play. */
    private static void gameAndPlay(int free) {
        PlankBench x = bench(free);
        due("SIZE", x.worth(0, 0), x.told(0, 0), free);
        due("who wins", x.wins(0), byPlay(x, 1), free);
    }

    /** Promises 7, 23, 24: behind the best plank the other one loses, behind each one before it not. */
    private static void bestAndPlay(PlankBench x, int boards, int who, int... about) {
        int best = x.best(boards, who);
        due("whether there is a best plank", best >= 0 ? 1 : 0, x.beginner(boards, who), about);
        int last = best >= 0 ? best : 16 * 6 - 1;
        for (int place = 0; place <= last; place++) {
            int b = place / 16;
            if ((boards >> b & 1) == 0 || x.lay(b, place % 16, who) < 0) continue;
            due("behind plank " + place, x.beginner(boards, 1 - who), place == best ? 0 : 1, about);
            due("lifted", x.lift(b), place % 16, about);
        }
    }

    /** Promises 9, 10, 15: a quarter exchanges along and across. */
    private static void quarterAndTurn(int free) {
        PlankBench x = bench(free);
        x.quarter(0, 1);
        x.worth(0, 0);
        x.worth(1, 1);
        x.turn(0, 2);
        same("a quarter and TURNED", x, 1, 2, free);
        due("planks along", x.moves(0, 0), x.moves(1, 1), free);
        due("planks across", x.moves(0, 1), x.moves(1, 0), free);
        due("PARTS", x.parts(0), x.parts(1), free);
        for (int what = 0; what < 2; what++) {
            int sign = what == 0 ? -1 : 1;
            due("LEFT STOP, TURNED", x.stop(2, 1, what), sign * x.stop(0, 0, what), free);
            due("RIGHT STOP, TURNED", x.stop(2, 0, what), sign * x.stop(0, 1, what), free);
        }
    }

    /** Promises 10, 14: what no plank joins is a SUM; here the upper two rows and the lower one. */
    private static void partsAndSum(int upper, int lower) {
        PlankBench x = bench(upper | lower << 12, upper, lower << 12);
        x.worth(0, 0);
        x.worth(1, 1);
        x.worth(2, 2);
        if (x.add(1, 2, 3) >= 0) same("PARTS and SUM", x, 0, 3, upper, lower);
    }

    /** Promises 13, 16, 18: made of its own LEFT and RIGHT ones a GAME is itself; these are in ORDER and unlike. */
    private static void optionsAndGame(int free) {
        PlankBench x = bench(free);
        x.worth(0, 0);
        int lefts = x.told(0, 2);
        int rights = x.told(0, 3);
        if (lefts + rights > 8) return;
        for (int i = 0; i < lefts; i++) x.option(0, 0, i, 1 + i);
        for (int i = 0; i < rights; i++) x.option(0, 1, i, 1 + lefts + i);
        x.game((1 << lefts) - 1 << 1, (1 << rights) - 1 << 1 + lefts, 9);
        same("made of its own ones", x, 0, 9, free);
        for (int i = 1; i < lefts; i++) neither(x, i, i + 1, free);
        for (int i = lefts + 1; i < lefts + rights; i++) neither(x, i, i + 1, free);
        int most = -1;
        for (int s = 1; s <= lefts + rights; s++) most = Math.max(most, x.told(s, 1));
        due("DEEP", x.told(0, 1), most + 1, free);
    }

    private static void neither(PlankBench x, int a, int b, int free) {
        due("two on one side", x.compare(a, b), 3, free);
        due("DEEP in ORDER", x.told(a, 1) <= x.told(b, 1) ? 1 : 0, 1, free);
    }

    /** Promises 14, 15, 19: a GAME and it TURNED are NOUGHT together; added to another it goes away again. */
    private static void addAndTurn(int free, int other) {
        PlankBench x = bench(free, other);
        x.worth(0, 0);
        x.worth(1, 1);
        x.turn(0, 2);
        due("G and G TURNED", x.add(0, 2, 3), 1, free);
        if (x.add(0, 1, 4) < 0) return;
        x.add(1, 0, 5);
        same("G and H, H and G", x, 4, 5, free, other);
        if (x.add(4, 2, 6) >= 0) same("G and H less G", x, 6, 1, free, other);
        // G is AT LEAST H where their difference is at least NOUGHT.
        x.turn(1, 7);
        if (x.add(0, 7, 8) >= 0) due("compared and who wins", x.compare(0, 1), x.wins(8), free, other);
    }

    /** Promises 14, 19, 23: several boards as one are won as the SUM of their GAMES is. */
    private static void sumAndPlay(int... boards) {
        PlankBench x = bench(boards);
        int all = (1 << boards.length) - 1;
        if (x.beginner(all, 0) < 0) return;
        for (int b = 0; b < boards.length; b++) {
            if (x.worth(b, 1) < 0 || x.add(0, 1, 0) < 0) return;
        }
        due("SUM and play", x.wins(0), byPlay(x, all), boards);
        PlankBench y = bench(boards);
        bestAndPlay(y, all, 0, boards);
        PlankBench z = bench(boards);
        bestAndPlay(z, all, 1, boards);
    }

    /** Promises 11, 12, 20, 21: what was asked for is told again, however it was put together. */
    private static void askedAndTold() {
        for (int n = -64; n <= 64; n++) {
            PlankBench x = new PlankBench();
            x.number(n, 3, 0);
            due("eighths", x.value(0, 0) << 3 - x.value(0, 1), n, n);
            x.number(n < 0 ? -1 : 1, 3, 1);
            for (int i = 0; i < Math.abs(n); i++) x.add(1, 2, 2);
            same("eighths, one by one", x, 0, 2, n);
        }
        for (int code = -12; code <= 13; code++) {
            PlankBench x = new PlankBench();
            int j = Math.floorDiv(code, 2);
            boolean star = Math.floorMod(code, 2) == 1;
            x.up(j, star, 0);
            x.up(j < 0 ? -1 : 1, false, 1);
            x.up(0, star, 2);
            for (int i = 0; i < Math.abs(j); i++) x.add(1, 2, 2);
            same("UPS, one by one", x, 0, 2, code);
            boolean isNumber = j == 0 && !star;
            due("j", x.ups(0, 0), isNumber ? -1000000 : j, code);
            due("STAR", x.ups(0, 1), isNumber ? -1000000 : star ? 1 : 0, code);
        }
    }

    private static int fewOf(Random random, int most) {
        int free = random.nextInt(65536);
        while (Integer.bitCount(free) > most) free &= random.nextInt(65536) | random.nextInt(65536);
        return free;
    }

    public static void main(String[] args) {
        for (int free = 0; free < 65536; free++) {
            if (Integer.bitCount(free) > 10) continue;
            gameAndPlay(free);
            if (free % 3 == 0) quarterAndTurn(free);
            if (free % 5 == 0) optionsAndGame(free);
        }
        for (int upper = 0; upper < 256; upper++) {
            for (int lower = 0; lower < 16; lower++) {
                if (Integer.bitCount(upper) + Integer.bitCount(lower) <= 10) partsAndSum(upper, lower);
            }
        }
        Random random = new Random(20);
        for (int i = 0; i < 3000; i++) addAndTurn(fewOf(random, 10), fewOf(random, 10));
        for (int i = 0; i < 3000; i++) sumAndPlay(fewOf(random, 6), fewOf(random, 6));
        for (int i = 0; i < 3000; i++) sumAndPlay(fewOf(random, 4), fewOf(random, 4), fewOf(random, 4));
        for (int i = 0; i < 1000; i++) sumAndPlay(3, fewOf(random, 2), fewOf(random, 2), fewOf(random, 2), 17, fewOf(random, 2));
        askedAndTold();
        System.out.println(wrong == 0 ? checks + " answers fit each other" : wrong + " answers don't fit");
        if (wrong != 0) System.exit(1);
    }
}
