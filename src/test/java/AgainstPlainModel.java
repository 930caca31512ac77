import java.util.ArrayList;
import java.util.Collections;
import java.util.HashMap;
import java.util.HashSet;
import java.util.List;
import java.util.Map;
import java.util.Random;
import java.util.Set;

/**
 * Long runs of chosen calls, each answer held against a plain model that follows the document's
 * words one by one: GAMES as trees, brought to LEAST FORM step by step, told by the definitions.
 */
public final class AgainstPlainModel {
    private static final int NOT_TOLD = -1000000;
    private static int wrong = 0;
    private static int calls = 0;
    private static int largest = 0;

    /** A GAME as a tree; two with the same options are one object. */
    private static final class Game {
        final int id;
        final List<Game> lefts;
        final List<Game> rights;
        final int deep;
        Set<Game> followers;

        Game(int id, List<Game> lefts, List<Game> rights) {
            this.id = id;
            this.lefts = lefts;
            this.rights = rights;
            int most = -1;
            for (Game g : lefts) most = Math.max(most, g.deep);
            for (Game g : rights) most = Math.max(most, g.deep);
            this.deep = most + 1;
        }

        Set<Game> followers() {
            if (followers == null) {
                followers = new HashSet<>();
                followers.add(this);
                for (Game g : lefts) followers.addAll(g.followers());
                for (Game g : rights) followers.addAll(g.followers());
            }
            return followers;
        }

        int size() {
            return followers().size();
        }
    }

    /** All GAMES of one run, and what is known of them. */
    private static final class Games {
        private final Map<List<List<Integer>>, Game> all = new HashMap<>();
        private final Map<Long, Boolean> atLeast = new HashMap<>();
        private final Map<Game, Game> least = new HashMap<>();
        private final Map<Long, Game> sums = new HashMap<>();
        private final Map<Integer, Game> boards = new HashMap<>();
        final Game nought = of(List.of(), List.of());
        final Game star = of(List.of(nought), List.of(nought));
        final Game up = of(List.of(nought), List.of(star));

        Game of(List<Game> lefts, List<Game> rights) {
            List<Game> l = new ArrayList<>(new HashSet<>(lefts));
            List<Game> r = new ArrayList<>(new HashSet<>(rights));
            l.sort(this::order);
            r.sort(this::order);
            List<List<Integer>> key = List.of(ids(l), ids(r));
            Game known = all.get(key);
            if (known == null) {
                known = new Game(all.size(), l, r);
                all.put(key, known);
            }
            return known;
        }

        private static List<Integer> ids(List<Game> games) {
            List<Integer> ids = new ArrayList<>();
            for (Game g : games) ids.add(g.id);
            return ids;
        }

        int order(Game g, Game h) {
            if (g == h) return 0;
            if (g.deep != h.deep) return g.deep - h.deep;
            if (g.lefts.size() != h.lefts.size()) return g.lefts.size() - h.lefts.size();
            if (g.rights.size() != h.rights.size()) return g.rights.size() - h.rights.size();
            for (int i = 0; i < g.lefts.size(); i++) {
                int o = order(g.lefts.get(i), h.lefts.get(i));
                if (o != 0) return o;
            }
            for (int i = 0; i < g.rights.size(); i++) {
                int o = order(g.rights.get(i), h.rights.get(i));
                if (o != 0) return o;
            }
            return 0;
        }

        boolean ge(Game g, Game h) {
            long key = (long) g.id << 32 | h.id;
            Boolean known = atLeast.get(key);
            if (known == null) {
                known = true;
                for (Game r : g.rights) if (ge(h, r)) known = false;
                if (known) for (Game l : h.lefts) if (ge(l, g)) known = false;
                atLeast.put(key, known);
            }
            return known;
        }

        /** The LEAST FORM of a GAME, by one replacement after the other. */
        Game least(Game g) {
            Game known = least.get(g);
            if (known == null) {
                List<Game> lefts = new ArrayList<>();
                List<Game> rights = new ArrayList<>();
                for (Game l : g.lefts) lefts.add(least(l));
                for (Game r : g.rights) rights.add(least(r));
                Game now = of(lefts, rights);
                for (Game next = step(now); next != now; next = step(now)) now = next;
                known = now;
                least.put(g, known);
                least.put(known, known);
            }
            return known;
        }

        private Game step(Game g) {
            for (Game l : g.lefts) {
                for (Game other : g.lefts) if (other != l && ge(other, l)) return of(without(g.lefts, l, List.of()), g.rights);
                for (Game lr : l.rights) if (ge(g, lr)) return of(without(g.lefts, l, lr.lefts), g.rights);
            }
            for (Game r : g.rights) {
                for (Game other : g.rights) if (other != r && ge(r, other)) return of(g.lefts, without(g.rights, r, List.of()));
                for (Game rl : r.lefts) if (ge(rl, g)) return of(g.lefts, without(g.rights, r, rl.rights));
            }
            return g;
        }

        private static List<Game> without(List<Game> from, Game out, List<Game> in) {
            List<Game> rest = new ArrayList<>(from);
            rest.remove(out);
            rest.addAll(in);
            return rest;
        }

        Game sum(Game g, Game h) {
            long key = (long) g.id << 32 | h.id;
            Game known = sums.get(key);
            if (known == null) {
                List<Game> lefts = new ArrayList<>();
                List<Game> rights = new ArrayList<>();
                for (Game l : g.lefts) lefts.add(sum(l, h));
                for (Game l : h.lefts) lefts.add(sum(g, l));
                for (Game r : g.rights) rights.add(sum(r, h));
                for (Game r : h.rights) rights.add(sum(g, r));
                known = least(of(lefts, rights));
                sums.put(key, known);
            }
            return known;
        }

        Game turned(Game g) {
            return turned(g, new HashMap<>());
        }

        private Game turned(Game g, Map<Game, Game> done) {
            Game known = done.get(g);
            if (known == null) {
                List<Game> lefts = new ArrayList<>();
                List<Game> rights = new ArrayList<>();
                for (Game r : g.rights) lefts.add(turned(r, done));
                for (Game l : g.lefts) rights.add(turned(l, done));
                known = of(lefts, rights);
                done.put(g, known);
            }
            return known;
        }

        Game number(int n, int k) {
            while (k > 0 && n % 2 == 0) {
                n /= 2;
                k--;
            }
            if (k > 0) return of(List.of(number(n - 1, k)), List.of(number(n + 1, k)));
            if (n > 0) return of(List.of(number(n - 1, 0)), List.of());
            if (n < 0) return of(List.of(), List.of(number(n + 1, 0)));
            return nought;
        }

        Game ups(int j, boolean withStar) {
            Game g = withStar ? star : nought;
            for (int i = 0; i < Math.abs(j); i++) g = sum(g, j < 0 ? turned(up) : up);
            return g;
        }

        Game ofBoard(int free) {
            Game known = boards.get(free);
            if (known == null) {
                List<Game> lefts = new ArrayList<>();
                List<Game> rights = new ArrayList<>();
                for (int f = 0; f < 16; f++) {
                    if (mask(free, f, 0) != 0) lefts.add(ofBoard(free & ~mask(free, f, 0)));
                    if (mask(free, f, 1) != 0) rights.add(ofBoard(free & ~mask(free, f, 1)));
                }
                known = least(of(lefts, rights));
                boards.put(free, known);
            }
            return known;
        }

        boolean isNumber(Game g) {
            for (Game l : g.lefts) if (!isNumber(l)) return false;
            for (Game r : g.rights) if (!isNumber(r)) return false;
            for (Game l : g.lefts) for (Game r : g.rights) if (ge(l, r)) return false;
            return true;
        }

        /** VALUES in parts of 2^-40. */
        long value(Game g) {
            if (g == nought) return 0;
            if (g.rights.isEmpty()) return value(g.lefts.get(0)) + (1L << 40);
            if (g.lefts.isEmpty()) return value(g.rights.get(0)) - (1L << 40);
            return (value(g.lefts.get(0)) + value(g.rights.get(0))) / 2;
        }

        long stop(Game g, int side, Map<List<Integer>, Long> done) {
            if (isNumber(g)) return value(g);
            List<Integer> key = List.of(g.id, side);
            Long known = done.get(key);
            if (known == null) {
                List<Long> stops = new ArrayList<>();
                for (Game o : side == 0 ? g.lefts : g.rights) stops.add(stop(o, 1 - side, done));
                known = side == 0 ? Collections.max(stops) : Collections.min(stops);
                done.put(key, known);
            }
            return known;
        }

        boolean isSwitch(Game g) {
            if (g.lefts.size() != 1 || g.rights.size() != 1) return false;
            Game l = g.lefts.get(0);
            Game r = g.rights.get(0);
            return isNumber(l) && isNumber(r) && value(l) > value(r);
        }

        /** j and whether with STAR, or null. */
        int[] ups(Game g) {
            for (int j = 0; j <= g.deep; j++) {
                for (int s = 0; s < 2; s++) {
                    Game plus = ups(j, s == 1);
                    if (plus == g) return new int[] {j, s};
                    if (turned(plus) == g) return new int[] {-j, s};
                }
            }
            return null;
        }

        int kind(Game g) {
            return isNumber(g) ? 1 : isSwitch(g) ? 2 : ups(g) != null ? 3 : 0;
        }
    }

    private static int mask(int free, int f, int who) {
        int next = who == 0 ? f + 1 : f + 4;
        if (who == 0 && f % 4 == 3 || next > 15) return 0;
        int mask = 1 << f | 1 << next;
        return (free & mask) == mask ? mask : 0;
    }

    private static int told(long value, int what) {
        int k = 40;
        while (k > 0 && value % 2 == 0) {
            value /= 2;
            k--;
        }
        return what == 0 ? (int) value : k;
    }

    /** The model: the same face as the class. */
    private static final class Model {
        final Games games;
        final int[] free = new int[6];
        final List<List<int[]>> laid = new ArrayList<>();
        final Game[] spots = new Game[10];

        Model(Games games) {
            this.games = games;
            for (int b = 0; b < 6; b++) laid.add(new ArrayList<>());
            for (int s = 0; s < 10; s++) spots[s] = games.nought;
        }

        static boolean board(int b) {
            return b >= 0 && b <= 5;
        }

        static boolean spot(int s) {
            return s >= 0 && s <= 9;
        }

        static boolean bit(int who) {
            return who == 0 || who == 1;
        }

        int row(int b, int r, int bits) {
            if (!board(b) || r < 0 || r > 3 || bits < 0 || bits > 15) return -1;
            free[b] = free[b] & ~(15 << 4 * r) | bits << 4 * r;
            laid.get(b).clear();
            return fields(b);
        }

        boolean field(int b, int f) {
            return board(b) && f >= 0 && f <= 15 && (free[b] >> f & 1) == 1;
        }

        int fields(int b) {
            return board(b) ? Integer.bitCount(free[b]) : -1;
        }

        int parts(int b) {
            if (!board(b)) return -1;
            int rest = free[b];
            int count = 0;
            for (int f = 0; f < 16; f++) {
                if ((rest >> f & 1) == 1) {
                    rest = spill(rest, f / 4, f % 4);
                    count++;
                }
            }
            return count;
        }

        private static int spill(int rest, int r, int c) {
            if (r < 0 || r > 3 || c < 0 || c > 3 || (rest >> 4 * r + c & 1) == 0) return rest;
            rest &= ~(1 << 4 * r + c);
            return spill(spill(spill(spill(rest, r - 1, c), r + 1, c), r, c - 1), r, c + 1);
        }

        int moves(int b, int who) {
            if (!board(b) || !bit(who)) return -1;
            int count = 0;
            for (int f = 0; f < 16; f++) if (mask(free[b], f, who) != 0) count++;
            return count;
        }

        int lay(int b, int f, int who) {
            if (!board(b) || !bit(who) || f < 0 || f > 15) return -1;
            int mask = mask(free[b], f, who);
            if (mask == 0) return -2;
            free[b] &= ~mask;
            laid.get(b).add(new int[] {f, mask});
            return laid.get(b).size();
        }

        int lift(int b) {
            if (!board(b)) return -1;
            if (laid.get(b).isEmpty()) return -4;
            int[] plank = laid.get(b).remove(laid.get(b).size() - 1);
            free[b] |= plank[1];
            return plank[0];
        }

        int quarter(int b, int to) {
            if (!board(b) || !board(to)) return -1;
            int turned = 0;
            for (int r = 0; r < 4; r++) {
                for (int c = 0; c < 4; c++) {
                    if (field(b, 4 * (3 - c) + r)) turned |= 1 << 4 * r + c;
                }
            }
            free[to] = turned;
            laid.get(to).clear();
            return fields(to);
        }

        int largestSpot() {
            int at = 0;
            for (int s = 1; s < 10; s++) if (spots[s].size() > spots[at].size()) at = s;
            return at;
        }

        int largest() {
            return spots[largestSpot()].size();
        }

        private int put(Game g, int to) {
            spots[to] = g;
            return g.size();
        }

        int worth(int b, int to) {
            if (!board(b) || !spot(to)) return -1;
            return fields(b) > 10 ? -3 : put(games.ofBoard(free[b]), to);
        }

        int number(int n, int k, int to) {
            if (k < 0 || k > 3 || Math.abs((long) n) > 8L << k || !spot(to)) return -1;
            return put(games.number(n, k), to);
        }

        int up(int j, boolean star, int to) {
            return j < -6 || j > 6 || !spot(to) ? -1 : put(games.ups(j, star), to);
        }

        int game(int lefts, int rights, int to) {
            if (lefts < 0 || lefts > 1023 || rights < 0 || rights > 1023 || !spot(to)) return -1;
            List<Game> l = new ArrayList<>();
            List<Game> r = new ArrayList<>();
            int sizes = 0;
            for (int s = 0; s < 10; s++) {
                if ((lefts >> s & 1) == 1) l.add(spots[s]);
                if ((rights >> s & 1) == 1) r.add(spots[s]);
            }
            for (Game g : l) sizes += g.size();
            for (Game g : r) sizes += g.size();
            for (Game g : l) if (g.deep > 20) return -3;
            for (Game g : r) if (g.deep > 20) return -3;
            return sizes > 300 ? -3 : put(games.least(games.of(l, r)), to);
        }

        int add(int a, int b, int to) {
            if (!spot(a) || !spot(b) || !spot(to)) return -1;
            return spots[a].size() * spots[b].size() > 300 ? -3 : put(games.sum(spots[a], spots[b]), to);
        }

        int turn(int a, int to) {
            return !spot(a) || !spot(to) ? -1 : put(games.turned(spots[a]), to);
        }

        int option(int a, int side, int i, int to) {
            if (!spot(a) || !bit(side) || !spot(to)) return -1;
            List<Game> options = side == 0 ? spots[a].lefts : spots[a].rights;
            return i < 0 || i >= options.size() ? -4 : put(options.get(i), to);
        }

        int told(int a, int what) {
            if (!spot(a) || what < 0 || what > 4) return -1;
            Game g = spots[a];
            if (what == 4) return games.kind(g);
            return what == 0 ? g.size() : what == 1 ? g.deep : what == 2 ? g.lefts.size() : g.rights.size();
        }

        private int relation(Game g, Game h) {
            return games.ge(g, h) ? games.ge(h, g) ? 0 : 1 : games.ge(h, g) ? 2 : 3;
        }

        int compare(int a, int b) {
            if (!spot(a) || !spot(b)) return -1;
            return spots[a].size() + spots[b].size() > 600 ? -3 : relation(spots[a], spots[b]);
        }

        int wins(int a) {
            return spot(a) ? relation(spots[a], games.nought) : -1;
        }

        int value(int a, int what) {
            boolean asked = spot(a) && bit(what) && games.isNumber(spots[a]);
            return asked ? AgainstPlainModel.told(games.value(spots[a]), what) : NOT_TOLD;
        }

        int ups(int a, int what) {
            boolean asked = spot(a) && bit(what) && games.kind(spots[a]) == 3;
            return asked ? games.ups(spots[a])[what] : NOT_TOLD;
        }

        int stop(int a, int side, int what) {
            if (!spot(a) || !bit(side) || !bit(what)) return NOT_TOLD;
            return AgainstPlainModel.told(games.stop(spots[a], side, new HashMap<>()), what);
        }

        private int refused(int boards, int who) {
            if (boards < 0 || boards > 63 || !bit(who)) return -1;
            int count = 0;
            for (int b = 0; b < 6; b++) if ((boards >> b & 1) == 1) count += fields(b);
            return count > 12 ? -3 : 0;
        }

        private boolean beats(int[] now, int who, Map<List<Integer>, Boolean> done) {
            List<Integer> key = new ArrayList<>(List.of(who));
            for (int mask : now) key.add(mask);
            Boolean known = done.get(key);
            if (known == null) {
                known = first(now, who, done) >= 0;
                done.put(key, known);
            }
            return known;
        }

        private int first(int[] now, int who, Map<List<Integer>, Boolean> done) {
            for (int b = 0; b < 6; b++) {
                for (int f = 0; f < 16; f++) {
                    int mask = mask(now[b], f, who);
                    if (mask != 0) {
                        int[] next = now.clone();
                        next[b] &= ~mask;
                        if (!beats(next, 1 - who, done)) return 16 * b + f;
                    }
                }
            }
            return -4;
        }

        private int[] chosen(int boards) {
            int[] now = new int[6];
            for (int b = 0; b < 6; b++) if ((boards >> b & 1) == 1) now[b] = free[b];
            return now;
        }

        int beginner(int boards, int who) {
            int refused = refused(boards, who);
            return refused != 0 ? refused : beats(chosen(boards), who, new HashMap<>()) ? 1 : 0;
        }

        int best(int boards, int who) {
            int refused = refused(boards, who);
            return refused != 0 ? refused : first(chosen(boards), who, new HashMap<>());
        }
    }

    private static void due(String call, int got, int want, int... args) {
        calls++;
        if (got != want) {
            wrong++;
            if (wrong <= 50) {
                System.out.println(call + java.util.Arrays.toString(args) + " answered " + got + ", due is " + want);
            }
        }
    }

    /** A number mostly in 0 .. end - 1, at times just outside, seldom far outside. */
    private static int about(Random random, int end) {
        int chance = random.nextInt(60);
        if (chance == 0) return -1;
        if (chance == 1) return end;
        if (chance == 2) return random.nextInt();
        return random.nextInt(end);
    }

    private static void boardCall(Random r, PlankBench x, Model m, int most) {
        int b = about(r, 6);
        switch (r.nextInt(10)) {
            case 0, 1, 2 -> {
                int row = about(r, 4);
                int bits = about(r, 16) & (r.nextInt(20) == 0 ? -1 : most);
                due("row", x.row(b, row, bits), m.row(b, row, bits), b, row, bits);
            }
            case 3 -> {
                int f = about(r, 16);
                due("field", x.field(b, f) ? 1 : 0, m.field(b, f) ? 1 : 0, b, f);
            }
            case 4 -> due("fields", x.fields(b), m.fields(b), b);
            case 5 -> due("parts", x.parts(b), m.parts(b), b);
            case 6 -> {
                int who = about(r, 2);
                due("moves", x.moves(b, who), m.moves(b, who), b, who);
            }
            case 7 -> {
                for (int i = 0; i < 4; i++) {
                    int f = about(r, 16);
                    int who = about(r, 2);
                    due("lay", x.lay(b, f, who), m.lay(b, f, who), b, f, who);
                }
            }
            case 8 -> due("lift", x.lift(b), m.lift(b), b);
            default -> {
                int to = about(r, 6);
                due("quarter", x.quarter(b, to), m.quarter(b, to), b, to);
            }
        }
    }

    private static void playCall(Random r, PlankBench x, Model m) {
        int boards = about(r, 64) & (r.nextInt(20) == 0 ? -1 : r.nextInt(64));
        int who = about(r, 2);
        if (r.nextBoolean()) {
            due("beginner", x.beginner(boards, who), m.beginner(boards, who), boards, who);
        } else {
            due("best", x.best(boards, who), m.best(boards, who), boards, who);
        }
    }

    private static void makeCall(Random r, PlankBench x, Model m) {
        int a = about(r, 10);
        int b = about(r, 10);
        int to = about(r, 10);
        switch (r.nextInt(12)) {
            case 0, 1 -> due("worth", x.worth(b % 6, to), m.worth(b % 6, to), b % 6, to);
            case 2 -> {
                int k = about(r, 4);
                int n = r.nextInt(30) == 0 ? r.nextInt() : r.nextInt(2 * (9 << (k & 3)) + 1) - (9 << (k & 3));
                due("number", x.number(n, k, to), m.number(n, k, to), n, k, to);
            }
            case 3 -> {
                int j = about(r, 13) - 6;
                boolean star = r.nextBoolean();
                due("up", x.up(j, star, to), m.up(j, star, to), j, star ? 1 : 0, to);
            }
            case 4, 5, 6, 7 -> {
                int lefts = spotSet(r);
                int rights = spotSet(r);
                due("game", x.game(lefts, rights, to), m.game(lefts, rights, to), lefts, rights, to);
            }
            case 8, 9 -> due("add", x.add(a, b, to), m.add(a, b, to), a, b, to);
            case 10 -> due("turn", x.turn(a, to), m.turn(a, to), a, to);
            default -> {
                int side = about(r, 2);
                int i = r.nextInt(6) - 1;
                due("option", x.option(a, side, i, to), m.option(a, side, i, to), a, side, i, to);
            }
        }
    }

    private static int spotSet(Random r) {
        int chance = r.nextInt(60);
        if (chance == 0) return r.nextInt();
        if (chance == 1) return 1024;
        if (chance == 2) return -1;
        if (chance < 40) return 1 << r.nextInt(10) | (r.nextBoolean() ? 1 << r.nextInt(10) : 0);
        return r.nextInt(1024) & r.nextInt(1024);
    }

    private static void tellCall(Random r, PlankBench x, Model m) {
        int a = about(r, 10);
        int b = about(r, 10);
        int what = about(r, 2);
        switch (r.nextInt(7)) {
            case 0, 1 -> {
                int told = about(r, 5);
                due("told", x.told(a, told), m.told(a, told), a, told);
            }
            case 2 -> due("compare", x.compare(a, b), m.compare(a, b), a, b);
            case 3 -> due("wins", x.wins(a), m.wins(a), a);
            case 4 -> due("value", x.value(a, what), m.value(a, what), a, what);
            case 5 -> due("ups", x.ups(a, what), m.ups(a, what), a, what);
            default -> {
                int side = about(r, 2);
                due("stop", x.stop(a, side, what), m.stop(a, side, what), a, side, what);
            }
        }
    }

    /** Most of what can be asked, at the end of a run: 219 calls. */
    private static void askAll(Random r, PlankBench x, Model m) {
        int b = r.nextInt(6);
        for (int f = 0; f < 16; f++) due("field", x.field(b, f) ? 1 : 0, m.field(b, f) ? 1 : 0, b, f);
        for (int c = 0; c < 6; c++) {
            due("fields", x.fields(c), m.fields(c), c);
            due("parts", x.parts(c), m.parts(c), c);
            due("lift", x.lift(c), m.lift(c), c);
        }
        for (int a = 0; a < 10; a++) {
            for (int what = 0; what < 5; what++) due("told", x.told(a, what), m.told(a, what), a, what);
            for (int what = 0; what < 2; what++) {
                due("value", x.value(a, what), m.value(a, what), a, what);
                due("ups", x.ups(a, what), m.ups(a, what), a, what);
                due("stop", x.stop(a, 0, what), m.stop(a, 0, what), a, 0, what);
                due("stop", x.stop(a, 1, what), m.stop(a, 1, what), a, 1, what);
            }
            for (int c = 0; c < a; c++) due("compare", x.compare(a, c), m.compare(a, c), a, c);
            due("wins", x.wins(a), m.wins(a), a);
        }
    }

    /** Down from one spot by options, asking at each step: shows the ORDER of what is held. 56 calls. */
    private static void descend(Random r, PlankBench x, Model m, int a) {
        for (int step = 0; step < 8; step++) {
            int side = r.nextInt(2);
            int many = m.told(a, 2 + side);
            int i = many == 0 ? 0 : r.nextInt(many);
            due("option", x.option(a, side, i, a), m.option(a, side, i, a), a, side, i, a);
            for (int what = 0; what < 5; what++) due("told", x.told(a, what), m.told(a, what), a, what);
            due("stop", x.stop(a, 0, 0), m.stop(a, 0, 0), a, 0, 0);
        }
    }

    private static void run(int seed) {
        Random r = new Random(seed);
        Model m = new Model(new Games());
        PlankBench x = new PlankBench();
        int most = new int[] {15, 7, 3, 11}[seed % 4];
        int kinds = seed % 3;
        int longest = 100 + r.nextInt(120);
        int before = calls;
        while (calls - before < longest) {
            int choice = r.nextInt(10);
            int boards = kinds == 0 ? 5 : kinds == 1 ? 2 : 1;
            if (choice < boards) {
                if (r.nextInt(4) == 0) playCall(r, x, m); else boardCall(r, x, m, most);
            } else if (choice < 8) {
                makeCall(r, x, m);
            } else {
                tellCall(r, x, m);
            }
        }
        askAll(r, x, m);
        descend(r, x, m, r.nextInt(10));
        atMost512(before);
    }

    /** What an object answers behind its 512th call is free, so nothing may be asked there. */
    private static void atMost512(int before) {
        if (calls - before > 512) {
            wrong++;
            System.out.println("the test itself is wrong: " + (calls - before) + " calls of one object");
        }
    }

    /** Large GAMES: hot, cold and small ones put together for long, up to where LARGE is answered. */
    private static void heavyRun(int seed) {
        Random r = new Random(1000003L * seed);
        Model m = new Model(new Games());
        PlankBench x = new PlankBench();
        int before = calls;
        for (int s = 0; s < 10; s++) start(r, x, m, s);
        while (calls - before < 325) {
            int to = r.nextInt(10);
            int a = r.nextInt(10);
            int b = r.nextInt(10);
            int choice = r.nextInt(10);
            if (choice < 5) {
                int lefts = r.nextInt(1024) & r.nextInt(1024) | 1 << a;
                int rights = r.nextInt(1024) & r.nextInt(1024) | 1 << b;
                due("game", x.game(lefts, rights, to), m.game(lefts, rights, to), lefts, rights, to);
            } else if (choice < 8) {
                due("add", x.add(a, b, to), m.add(a, b, to), a, b, to);
            } else if (choice < 9) {
                due("turn", x.turn(a, to), m.turn(a, to), a, to);
            } else if (m.spots[to].size() > 40) {
                start(r, x, m, to);
            } else {
                due("compare", x.compare(to, a), m.compare(to, a), to, a);
            }
        }
        largest = Math.max(largest, m.largest());
        for (int what = 0; what < 5; what++) {
            for (int a = 0; a < 10; a++) due("told", x.told(a, what), m.told(a, what), a, what);
        }
        for (int a = 0; a < 10; a++) {
            due("compare", x.compare(a, a * 7 % 10), m.compare(a, a * 7 % 10), a, a * 7 % 10);
            due("stop", x.stop(a, seed % 2, 0), m.stop(a, seed % 2, 0), a, seed % 2, 0);
        }
        descend(r, x, m, m.largestSpot());
        descend(r, x, m, r.nextInt(10));
        atMost512(before);
    }

    /**
     * Four SWITCHES that only their LEFT ones put in ORDER, beside what has more than 64 FOLLOWERS
     * less DEEP than these: so the ORDER hangs on late ones.
     */
    private static void wideRun(int seed) {
        Random r = new Random(7919L * seed);
        Model m = new Model(new Games());
        PlankBench x = new PlankBench();
        int before = calls;
        int[] spots = {0, 1, 2, 3};
        for (int i = 0; i < 4; i++) {
            int other = r.nextInt(4);
            int kept = spots[i];
            spots[i] = spots[other];
            spots[other] = kept;
        }
        for (int i = 0; i < 4; i++) switchOf(x, m, 57 + 2 * i, -33 - r.nextInt(3) - 4 * i, spots[i]);
        for (int s = 4; s < 6; s++) {
            switchOf(x, m, 9 + r.nextInt(4), -5 - r.nextInt(6), 6);
            switchOf(x, m, 1 + r.nextInt(6), -1 - r.nextInt(12), 7);
            due("add", x.add(6, 7, s), m.add(6, 7, s), 6, 7, s);
            switchOf(x, m, 13 + r.nextInt(4), -11 - r.nextInt(6), 6);
            due("add", x.add(6, s, s), m.add(6, s, s), 6, s, s);
        }
        due("number", x.number(-8, 0, 6), m.number(-8, 0, 6), -8, 0, 6);
        due("game", x.game(63, 64, 7), m.game(63, 64, 7), 63, 64, 7);
        largest = Math.max(largest, m.largest());
        askOptions(x, m, 7, 8);
        due("turn", x.turn(7, 7), m.turn(7, 7), 7, 7);
        askOptions(x, m, 7, 8);
        atMost512(before);
    }

    /** The SWITCH of two numbers of eighths. */
    private static void switchOf(PlankBench x, Model m, int left, int right, int to) {
        due("number", x.number(left, 3, 8), m.number(left, 3, 8), left, 3, 8);
        due("number", x.number(right, 3, 9), m.number(right, 3, 9), right, 3, 9);
        due("game", x.game(256, 512, to), m.game(256, 512, to), 256, 512, to);
    }

    private static void askOptions(PlankBench x, Model m, int a, int to) {
        for (int side = 0; side < 2; side++) {
            for (int i = 0; i < Math.min(7, m.told(a, 2 + side)); i++) {
                due("option", x.option(a, side, i, to), m.option(a, side, i, to), a, side, i, to);
                due("stop", x.stop(to, 0, 0), m.stop(to, 0, 0), to, 0, 0);
                due("stop", x.stop(to, 1, 0), m.stop(to, 1, 0), to, 1, 0);
            }
        }
    }

    /**
     * A GAME of SIZE 300 and 20 DEEP, as large as any can be: what Boundaries takes for it. From 3 and
     * STAR on, {G + n / 2^k | G} of the G before; then that and it TURNED.
     */
    private static void fullRun(int[][] growth) {
        Model m = new Model(new Games());
        PlankBench x = new PlankBench();
        due("number", x.number(3, 0, 9), m.number(3, 0, 9), 3, 0, 9);
        due("game", x.game(512, 512, 0), m.game(512, 512, 0), 512, 512, 0);
        for (int[] step : growth) {
            due("number", x.number(step[0], step[1], 9), m.number(step[0], step[1], 9), step[0], step[1], 9);
            due("add", x.add(0, 9, 9), m.add(0, 9, 9), 0, 9, 9);
            due("game", x.game(512, 1, 0), m.game(512, 1, 0), 512, 1, 0);
        }
        due("turn", x.turn(0, 1), m.turn(0, 1), 0, 1);
        for (int[] sets : new int[][] {{1, 2, 2}, {1, 1, 3}, {4, 0, 4}, {0, 4, 4}, {4, 16, 5}, {4, 4, 5}, {2, 1, 6}}) {
            due("game", x.game(sets[0], sets[1], sets[2]), m.game(sets[0], sets[1], sets[2]), sets);
        }
        due("add", x.add(2, 8, 7), m.add(2, 8, 7), 2, 8, 7);
        due("add", x.add(2, 1, 7), m.add(2, 1, 7), 2, 1, 7);
        due("turn", x.turn(2, 8), m.turn(2, 8), 2, 8);
        askAll(new Random(1), x, m);
        for (int a : new int[] {0, 2, 3, 6}) descend(new Random(a), x, m, a);
        largest = Math.max(largest, m.largest());
    }

    private static void start(Random r, PlankBench x, Model m, int s) {
        int choice = r.nextInt(3);
        if (choice == 0) {
            int n = r.nextInt(129) - 64;
            due("number", x.number(n, 3, s), m.number(n, 3, s), n, 3, s);
        } else if (choice == 1) {
            int j = r.nextInt(13) - 6;
            due("up", x.up(j, s % 2 == 0, s), m.up(j, s % 2 == 0, s), j, s % 2, s);
        } else {
            for (int q = 0; q < 4; q++) {
                int bits = r.nextInt(16) & (r.nextInt(16) | r.nextInt(16));
                due("row", x.row(0, q, bits), m.row(0, q, bits), 0, q, bits);
            }
            due("worth", x.worth(0, s), m.worth(0, s), 0, s);
        }
    }

    /** Every board, worth its GAME, with the options of it in ORDER. */
    private static void boardsInTurn() {
        Games games = new Games();
        for (int free = 0; free < 65536; free++) {
            PlankBench x = new PlankBench();
            Model m = new Model(games);
            for (int r = 0; r < 4; r++) due("row", x.row(0, r, free >> 4 * r & 15), m.row(0, r, free >> 4 * r & 15), 0, r, free);
            due("parts", x.parts(0), m.parts(0), free);
            for (int who = 0; who < 2; who++) {
                due("moves", x.moves(0, who), m.moves(0, who), free, who);
                due("beginner", x.beginner(1, who), m.beginner(1, who), free, who);
                due("best", x.best(1, who), m.best(1, who), free, who);
            }
            due("worth", x.worth(0, 0), m.worth(0, 0), free);
            for (int what = 0; what < 5; what++) due("told", x.told(0, what), m.told(0, what), free, what);
            for (int side = 0; side < 2; side++) {
                due("stop", x.stop(0, side, 0), m.stop(0, side, 0), free, side, 0);
                due("stop", x.stop(0, side, 1), m.stop(0, side, 1), free, side, 1);
                for (int i = 0; i <= m.told(0, 2 + side); i++) {
                    due("option", x.option(0, side, i, 1), m.option(0, side, i, 1), free, side, i);
                    due("stop", x.stop(1, 0, 0), m.stop(1, 0, 0), free, side, i, 0);
                    due("stop", x.stop(1, 1, 0), m.stop(1, 1, 0), free, side, i, 1);
                    due("told", x.told(1, 4), m.told(1, 4), free, side, i);
                }
            }
        }
    }

    public static void main(String[] args) {
        int runs = args.length > 0 ? Integer.parseInt(args[0]) : 400;
        int firstSeed = args.length > 1 ? Integer.parseInt(args[1]) : 1;
        for (int seed = firstSeed; seed < firstSeed + runs; seed++) {
            int before = wrong;
            run(seed);
            if (wrong > before && wrong <= 50) System.out.println("in the run of seed " + seed);
        }
        for (int seed = firstSeed; seed < firstSeed + runs; seed++) {
            int before = wrong;
            heavyRun(seed);
            if (wrong > before && wrong <= 50) System.out.println("in the heavy run of seed " + seed);
        }
        for (int seed = firstSeed; seed < firstSeed + runs; seed++) {
            int before = wrong;
            wideRun(seed);
            if (wrong > before && wrong <= 50) System.out.println("in the wide run of seed " + seed);
        }
        boardsInTurn();
        fullRun(new int[][] {{1, 3}, {1, 2}, {3, 3}, {1, 0}, {3, 1}, {2, 0}});
        fullRun(new int[][] {{1, 3}, {3, 3}, {1, 1}, {3, 2}, {7, 2}, {2, 0}});
        System.out.println("the largest GAME had SIZE " + largest);
        System.out.println(wrong == 0 ? calls + " answers are as due" : wrong + " answers are not as due");
        if (wrong != 0) System.exit(1);
    }
}
