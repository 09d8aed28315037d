import java.math.BigInteger;
import java.util.ArrayDeque;
import java.util.ArrayList;
import java.util.Deque;
import java.util.HashMap;
import java.util.List;
import java.util.Map;
import java.util.Random;
import java.util.regex.Matcher;
import java.util.regex.Pattern;

/** Drawn runs of calls (by fixed seeds), each answer against a second program written as plainly as can be. */
public final class PlainModelTest {
    private static final int BAD = -1, NO = -2, FULL = -3, NONE = -4;
    private static final String FIRST = "g3,0;g2,1;g5,2;g1,3;h0;h10;h25;s0,0,9;s0,1,7;s1,3,12;s2,2,3;s2,0,2;"
            + "e0,0,15;e1,0,12;e1,1,20;e2,3,10;d2,3;d4,5;d7,2;k0,1,8;k0,3,5;";

    /** What a text tells. */
    private static final class Told {
        final List<int[]> goods = new ArrayList<>();
        final List<Integer> cells = new ArrayList<>();
        final Map<Integer, Integer> stock = new HashMap<>();
        final List<int[]> eaters = new ArrayList<>();
        final List<int[]> demands = new ArrayList<>();
        final List<int[]> recipes = new ArrayList<>();
        int fault = NONE;

        Told(String text) {
            Matcher item = Pattern.compile("([a-z])(\\d{1,2})(?:,(\\d{1,2}))?(?:,(\\d{1,2}))?;").matcher(text);
            int place = 0;
            while (place < text.length()) {
                if (!item.find(place) || item.start() != place || !tell(item)) {
                    fault = place;
                    return;
                }
                place = item.end();
            }
        }

        private boolean tell(Matcher item) {
            int[] n = new int[3];
            int numbers = 0;
            for (int i = 0; i < 3; i++) {
                if (item.group(i + 2) != null) {
                    n[i] = Integer.parseInt(item.group(i + 2));
                    numbers++;
                }
            }
            boolean placed = n[0] < cells.size() && n[1] < goods.size();
            switch (item.group(1) + numbers) {
                case "g2":
                    goods.add(new int[] {n[0], n[1]});
                    return n[0] >= 1 && n[0] <= 9 && n[1] <= 3 && goods.size() <= 5;
                case "h1":
                    cells.add(n[0]);
                    return n[0] <= 60 && cells.size() <= 5;
                case "s3":
                    stock.put(n[0] * 10 + n[1], n[2]);
                    return placed && n[2] <= 40;
                case "e3":
                    eaters.add(n);
                    return placed && n[2] >= 1 && n[2] <= 20 && eaters.size() <= 8;
                case "d2":
                    demands.add(n);
                    return n[0] <= 20 && n[1] <= 10 && demands.size() <= 5;
                case "k3":
                    recipes.add(n);
                    return n[0] < goods.size() && n[1] < goods.size() && n[2] >= 1 && n[2] <= 9 && recipes.size() <= 3;
                default:
                    return false;
            }
        }

        boolean lays() {
            int chances = demands.stream().mapToInt(d -> d[1]).sum();
            return fault == NONE && !goods.isEmpty() && !cells.isEmpty() && (demands.isEmpty() || chances == 10);
        }
    }

    /** How things stand. */
    private static final class State {
        int minute;
        int[][] pieces;
        int[] eaten;
        int[] hungry;
        List<int[]> ways = new ArrayList<>();

        State(Told told) {
            pieces = new int[told.cells.size()][told.goods.size()];
            told.stock.forEach((place, n) -> pieces[place / 10][place % 10] = n);
            eaten = new int[told.eaters.size()];
            hungry = new int[told.eaters.size()];
        }

        State(State s) {
            minute = s.minute;
            pieces = new int[s.pieces.length][];
            for (int h = 0; h < pieces.length; h++) {
                pieces[h] = s.pieces[h].clone();
            }
            eaten = s.eaten.clone();
            hungry = s.hungry.clone();
            ways = new ArrayList<>(s.ways);
        }
    }

    /** The second program. */
    private static final class Plain {
        String text = "";
        Told told = new Told(FIRST);
        State now = new State(told);
        final Deque<State> undone = new ArrayDeque<>();
        final Deque<State> kept = new ArrayDeque<>();

        long answer(String call, int[] a) {
            switch (call) {
                case "write": return write(a[0]);
                case "wipe": { int n = text.length(); text = ""; return n; }
                case "fault": return new Told(text).fault;
                case "lay": return lay();
                case "house": return house(a[0], a[1], a[2]);
                case "eater": return eater(a[0], a[1]);
                case "way": return !in(a[0], now.ways.size()) || !in(a[1], 4) ? BAD : now.ways.get(a[0])[a[1]];
                case "pass": return pass(a[0]);
                case "give": return give(a[0], a[1], a[2], a[3]);
                case "toss": return toss(a[0], a[1], a[2]);
                case "undo": return undo();
                case "taken": return taken(a[0]);
                case "first": return first(a[0]);
                case "gift": return gift(a[0]);
                case "carried": return carried(a[0], a[1]);
                case "round": return round(a[0], a[1], a[2]);
                case "bake": return bake(a[0], a[1], a[2]);
                case "buy": return buy(a[0], a[1], a[2], a[3], a[4]);
                case "soup": return soup(a[0]);
                case "gave": return gave(a[0], a[1]);
                case "pea": return pea(a[0], a[1]);
                case "evening": return evening(a[0], a[1]);
                case "keep": return keep();
                case "back": return back();
                default: return count(a[0]);
            }
        }

        private static boolean in(int n, int size) {
            return n >= 0 && n < size;
        }

        private boolean isHouse(int h) {
            return in(h, told.cells.size());
        }

        private boolean isGood(int g) {
            return in(g, told.goods.size());
        }

        private int cells(int a, int b) {
            return Math.abs(told.cells.get(a) - told.cells.get(b));
        }

        private long write(int letter) {
            if (letter < 32 || letter > 126) return BAD;
            if (text.length() == 200) return FULL;
            text += (char) letter;
            return text.length();
        }

        private long lay() {
            Told t = new Told(text);
            if (!t.lays()) return NO;
            told = t;
            now = new State(t);
            undone.clear();
            kept.clear();
            return t.cells.size();
        }

        private int left(int g, int n) {
            int kind = told.goods.get(g)[1];
            return kind == 2 ? 0 : kind == 1 ? n / 2 : n;
        }

        private long house(int h, int g, int what) {
            if (!isHouse(h) || !isGood(g) || !in(what, 3)) return BAD;
            if (what == 0) return now.pieces[h][g];
            return left(g, (what == 1 ? now : atFive(now, -1)).pieces[h][g]);
        }

        private long eater(int i, int what) {
            if (!in(i, told.eaters.size()) || !in(what, 3)) return BAD;
            return what == 0 ? now.eaten[i] : what == 1 ? now.hungry[i] : atFive(now, -1).hungry[i];
        }

        private boolean eats(int z, int t, int i) {
            BigInteger x = BigInteger.valueOf(7919L * z + 6151L * t + 3571L * i + 1);
            int number = z < 0 ? t : x.multiply(x).mod(BigInteger.valueOf(65521)).intValue();
            return number % told.eaters.get(i)[2] == 0;
        }

        private void minute(State s, int z) {
            int t = ++s.minute;
            for (int[] gift : s.ways) {
                if (gift[3] == t) s.pieces[gift[0]][gift[1]] += gift[2];
            }
            s.ways.removeIf(gift -> gift[3] == t);
            for (int g = 0; g < told.goods.size(); g++) {
                for (int[] house : s.pieces) {
                    if (told.goods.get(g)[1] == 3 && t % 10 == 0 && house[g] > 0) house[g]--;
                }
            }
            for (int i = 0; i < told.eaters.size(); i++) {
                int[] e = told.eaters.get(i);
                if (!eats(z, t, i)) continue;
                if (s.pieces[e[0]][e[1]] > 0) {
                    s.pieces[e[0]][e[1]]--;
                    s.eaten[i]++;
                } else {
                    s.hungry[i]++;
                }
            }
        }

        private State atFive(State from, int z) {
            State s = new State(from);
            while (s.minute < 60) minute(s, z);
            return s;
        }

        private int worth(State s, int h) {
            int all = 0;
            for (int g = 0; g < told.goods.size(); g++) all += told.goods.get(g)[0] * left(g, s.pieces[h][g]);
            return all;
        }

        private int worth(State s) {
            int all = 0;
            for (int h = 0; h < s.pieces.length; h++) all += worth(s, h);
            return all;
        }

        private void remember() {
            undone.push(new State(now));
            if (undone.size() > 8) undone.removeLast();
        }

        private long pass(int n) {
            if (n < 1 || n > 60) return BAD;
            if (now.minute + n > 60) return NO;
            remember();
            for (int i = 0; i < n; i++) minute(now, -1);
            return now.minute;
        }

        private static boolean five(State s) {
            return s.minute == 60;
        }

        /** The state behind a gift, or null with what is in the way. */
        private State given(State s, int from, int to, int g, int n, long[] why) {
            int far = cells(from, to);
            if (five(s) || s.pieces[from][g] < n) {
                why[0] = NO;
                return null;
            }
            if (far > 0 && s.ways.size() == 6) {
                why[0] = FULL;
                return null;
            }
            why[0] = s.minute + far;
            State behind = new State(s);
            behind.pieces[from][g] -= n;
            if (far == 0) {
                behind.pieces[to][g] += n;
            } else {
                behind.ways.add(new int[] {to, g, n, s.minute + far});
            }
            return behind;
        }

        private long give(int from, int to, int g, int n) {
            if (!isHouse(from) || !isHouse(to) || from == to || !isGood(g) || n < 1 || n > 40) return BAD;
            long[] why = new long[1];
            State behind = given(now, from, to, g, n, why);
            if (behind != null) {
                remember();
                now = behind;
            }
            return why[0];
        }

        private long toss(int h, int g, int n) {
            if (!isHouse(h) || !isGood(g) || n < 1 || n > 40) return BAD;
            if (five(now) || now.pieces[h][g] < n) return NO;
            remember();
            return now.pieces[h][g] -= n;
        }

        private long undo() {
            if (undone.isEmpty()) return NO;
            now = undone.pop();
            return undone.size();
        }

        private long taken(int h) {
            if (h != -1 && !isHouse(h)) return BAD;
            State s = atFive(now, -1);
            return h == -1 ? worth(s) : worth(s, h);
        }

        private long first(int what) {
            if (!in(what, 2)) return BAD;
            State s = new State(now);
            while (s.minute < 60) {
                int[] before = s.hungry.clone();
                minute(s, -1);
                for (int i = 0; i < before.length; i++) {
                    if (s.hungry[i] != before[i]) return what == 0 ? s.minute : i;
                }
            }
            return NONE;
        }

        private long gift(int what) {
            if (!in(what, 2)) return BAD;
            int least = worth(atFive(now, -1));
            int best = NONE;
            int houses = told.cells.size();
            for (int code = 0; code < 5000; code++) {
                int from = code / 1000, to = code / 100 % 10, g = code / 10 % 10, n = code % 10;
                if (from >= houses || to >= houses || from == to || !isGood(g) || n == 0) continue;
                State behind = given(now, from, to, g, n, new long[1]);
                if (behind == null) continue;
                int worth = worth(atFive(behind, -1));
                if (worth < least) {
                    least = worth;
                    best = code;
                }
            }
            return best == NONE || what == 0 ? best : least;
        }

        private long carried(int g, int c) {
            if (!isGood(g) || !in(c, 61)) return BAD;
            State s = atFive(now, -1);
            int houses = told.cells.size();
            int[][] flow = new int[houses + houses + 2][houses + houses + 2];
            int from = houses + houses, to = from + 1;
            for (int h = 0; h < houses; h++) {
                flow[from][h] = s.pieces[h][g];
                for (int k = 0; k < houses; k++) {
                    if (cells(h, k) <= c) flow[h][houses + k] = 100000;
                }
            }
            for (int i = 0; i < told.eaters.size(); i++) {
                int[] e = told.eaters.get(i);
                if (e[1] == g) flow[houses + e[0]][to] += s.hungry[i] - now.hungry[i];
            }
            int all = 0;
            while (push(flow, from, to, new boolean[to + 1])) all++;
            return all;
        }

        /** One piece more by any way that is open. */
        private boolean push(int[][] flow, int at, int to, boolean[] seen) {
            if (at == to) return true;
            seen[at] = true;
            for (int k = 0; k < flow.length; k++) {
                if (!seen[k] && flow[at][k] > 0 && push(flow, k, to, seen)) {
                    flow[at][k]--;
                    flow[k][at]++;
                    return true;
                }
            }
            return false;
        }

        /** All walks of m steps, by cell and houses come by. */
        private long round(int x, int m, int what) {
            if (!in(x, 61) || !in(m, 100) || !in(what, 2)) return BAD;
            State s = atFive(now, -1);
            int[][] far = new int[61][32];
            for (int[] row : far) java.util.Arrays.fill(row, 1000);
            Deque<int[]> open = new ArrayDeque<>();
            far[x][housesAt(x)] = 0;
            open.add(new int[] {x, housesAt(x)});
            int best = -1, least = 0;
            while (!open.isEmpty()) {
                int[] p = open.poll();
                int steps = far[p[0]][p[1]];
                if (steps > m) break;
                int worth = 0;
                for (int h = 0; h < told.cells.size(); h++) {
                    if ((p[1] >> h & 1) == 1) worth += worth(s, h);
                }
                if (worth > best) {
                    best = worth;
                    least = steps;
                }
                for (int next = p[0] - 1; next <= p[0] + 1; next += 2) {
                    if (!in(next, 61)) continue;
                    int set = p[1] | housesAt(next);
                    if (far[next][set] == 1000) {
                        far[next][set] = steps + 1;
                        open.add(new int[] {next, set});
                    }
                }
            }
            return what == 0 ? best : least;
        }

        private int housesAt(int x) {
            int set = 0;
            for (int h = 0; h < told.cells.size(); h++) {
                if (told.cells.get(h) == x) set |= 1 << h;
            }
            return set;
        }

        private static long part(BigInteger above, BigInteger below, int what) {
            BigInteger common = above.gcd(below);
            return (what == 1 ? above : below).divide(common).longValueExact();
        }

        private long bake(int l, int s, int what) {
            if (!in(l, 10) || !in(s, 10) || !in(what, 3)) return BAD;
            if (told.demands.isEmpty()) return NONE;
            long best = Long.MAX_VALUE;
            int loaves = 0;
            for (int q = 20; q >= 0; q--) {
                long cost = 0;
                for (int[] d : told.demands) {
                    cost += d[1] * (l * Math.max(0, q - d[0]) + s * Math.max(0, d[0] - q));
                }
                if (cost <= best) {
                    best = cost;
                    loaves = q;
                }
            }
            return what == 0 ? loaves : part(BigInteger.valueOf(best), BigInteger.TEN, what);
        }

        private long buy(int v, int a, int b, int x, int what) {
            if (!in(v, 100) || !in(a, 100) || !in(b, 10) || !in(x, 11) || !in(what, 3)) return BAD;
            BigInteger whole = BigInteger.TEN.pow(10);
            BigInteger best = null;
            int minute = 0;
            for (int t = 10; t >= 0; t--) {
                int price = Math.max(0, a - b * t);
                BigInteger gain = BigInteger.valueOf(10 - x).pow(t).multiply(BigInteger.TEN.pow(10 - t))
                        .multiply(BigInteger.valueOf(v - price));
                if (best == null || gain.compareTo(best) >= 0) {
                    best = gain;
                    minute = t;
                }
            }
            return what == 0 ? minute : part(best.add(whole.multiply(BigInteger.valueOf(1000))), whole, what);
        }

        private long soup(int k) {
            if (k != -1 && !in(k, told.recipes.size())) return BAD;
            State s = atFive(now, -1);
            int[] stock = new int[told.goods.size()];
            for (int g = 0; g < stock.length; g++) {
                for (int[] house : s.pieces) stock[g] += left(g, house[g]);
            }
            int[] best = {-1, 0, 0, 0};
            cook(stock, 0, new int[4], best);
            return k == -1 ? best[0] : best[k + 1];
        }

        /** All ways, a recipe behind the other. */
        private void cook(int[] stock, int k, int[] way, int[] best) {
            if (k == told.recipes.size()) {
                if (java.util.Arrays.compare(way, best) > 0) System.arraycopy(way, 0, best, 0, 4);
                return;
            }
            int[] r = told.recipes.get(k);
            int[] rest = stock.clone();
            int[] next = way.clone();
            while (rest[r[0]] >= 0 && rest[r[1]] >= 0) {
                cook(rest, k + 1, next, best);
                rest[r[0]]--;
                rest[r[1]]--;
                next[0] += r[2];
                next[k + 1]++;
            }
        }

        private long gave(int v, int what) {
            if (!in(v, 10000) || !in(what, 2)) return BAD;
            State s = atFive(now, -1);
            int sets = 0, lowest = NONE;
            for (int set = (1 << told.cells.size()) - 1; set >= 0; set--) {
                int worth = 0;
                for (int h = 0; h < told.cells.size(); h++) worth += (set >> h & 1) * worth(s, h);
                if (worth == v) {
                    sets++;
                    lowest = set;
                }
            }
            return what == 0 ? sets : lowest;
        }

        private long pea(int n, int m) {
            if (n < 1 || n > 99 || m < 1 || m > 9) return BAD;
            return eat(n, 0, m, new HashMap<>());
        }

        private int eat(int left, int before, int m, Map<Integer, Integer> known) {
            Integer so = known.get(left * 10 + before);
            if (so != null) return so;
            int won = 0;
            for (int e = Math.min(left, m); e >= 1; e--) {
                if (e != before && eat(left - e, e, m, known) == 0) won = e;
            }
            known.put(left * 10 + before, won);
            return won;
        }

        private long evening(int z, int what) {
            if (!in(z, 10000) || !in(what, 2)) return BAD;
            State s = atFive(now, z);
            int more = 0;
            for (int i = 0; i < s.hungry.length; i++) more += s.hungry[i] - now.hungry[i];
            return what == 0 ? worth(s) : more;
        }

        private long keep() {
            if (kept.size() == 2) return FULL;
            kept.push(new State(now));
            return kept.size();
        }

        private long back() {
            if (kept.isEmpty()) return NO;
            now = kept.pop();
            undone.clear();
            return kept.size();
        }

        private long count(int what) {
            int[] all = {told.goods.size(), told.cells.size(), told.eaters.size(), told.demands.size(),
                told.recipes.size(), now.minute, now.ways.size(), undone.size(), kept.size(), text.length()};
            return in(what, all.length) ? all[what] : BAD;
        }
    }

    private static long asked(LeftAtFive x, String call, int[] a) {
        switch (call) {
            case "write": return x.write(a[0]);
            case "wipe": return x.wipe();
            case "fault": return x.fault();
            case "lay": return x.lay();
            case "house": return x.house(a[0], a[1], a[2]);
            case "eater": return x.eater(a[0], a[1]);
            case "way": return x.way(a[0], a[1]);
            case "pass": return x.pass(a[0]);
            case "give": return x.give(a[0], a[1], a[2], a[3]);
            case "toss": return x.toss(a[0], a[1], a[2]);
            case "undo": return x.undo();
            case "taken": return x.taken(a[0]);
            case "first": return x.first(a[0]);
            case "gift": return x.gift(a[0]);
            case "carried": return x.carried(a[0], a[1]);
            case "round": return x.round(a[0], a[1], a[2]);
            case "bake": return x.bake(a[0], a[1], a[2]);
            case "buy": return x.buy(a[0], a[1], a[2], a[3], a[4]);
            case "soup": return x.soup(a[0]);
            case "gave": return x.gave(a[0], a[1]);
            case "pea": return x.pea(a[0], a[1]);
            case "evening": return x.evening(a[0], a[1]);
            case "keep": return x.keep();
            case "back": return x.back();
            default: return x.count(a[0]);
        }
    }

    /** A call's name and, for each number, from where to where it is drawn. */
    private static final String[] CALLS = {
        "house 0 4 0 4 0 2", "eater 0 7 0 2", "way 0 5 0 3", "pass 1 60", "pass 1 6", "pass 1 3", "give 0 4 0 4 0 4 1 40",
        "give 0 2 0 2 0 2 1 3", "give 0 2 0 2 0 2 1 3", "toss 0 4 0 4 1 40", "toss 0 2 0 2 1 4", "undo", "taken -1 4",
        "first 0 1", "gift 0 1", "gift 0 1", "carried 0 4 0 60", "carried 0 4 0 20", "round 0 60 0 99 0 1", "bake 0 9 0 9 0 2",
        "buy 0 99 0 99 0 9 0 10 0 2", "soup -1 2", "gave 0 120 0 1", "pea 1 99 1 9", "evening 0 9999 0 1", "keep", "back",
        "count 0 9", "fault", "lay", "wipe", "write 32 126",
    };

    private static final int[] STRANGE = {-2, -1, 0, 61, 100, 10000, Integer.MIN_VALUE, Integer.MAX_VALUE};

    private final Random random;
    private final LeftAtFive program = new LeftAtFive();
    private final Plain plain = new Plain();
    private final StringBuilder run = new StringBuilder();
    private int calls = 0;
    private boolean wrong = false;

    private PlainModelTest(long seed) {
        random = new Random(seed);
    }

    private int draw(int least, int most) {
        return least + random.nextInt(most - least + 1);
    }

    private void call(String name, int... a) {
        if (calls >= 512 || wrong) {
            return;
        }
        calls++;
        long want = plain.answer(name, a);
        long got = asked(program, name, a);
        run.append(name).append(java.util.Arrays.toString(a)).append(' ').append(want).append('\n');
        if (got != want) {
            wrong = true;
            System.out.println(run + "the last one answered " + got);
        }
    }

    private void write(String text) {
        call("wipe");
        for (char letter : text.toCharArray()) {
            call("write", letter);
        }
        call("fault");
        call("lay");
    }

    private String drawnText() {
        StringBuilder text = new StringBuilder();
        int goods = draw(1, 5), houses = draw(1, 5);
        boolean close = random.nextInt(3) == 0;
        for (int g = 0; g < goods; g++) text.append("g" + draw(1, 9) + "," + draw(0, 3) + ";");
        for (int h = 0; h < houses; h++) text.append("h" + draw(0, close ? 6 : 60) + ";");
        for (int n = draw(0, 9); n > 0; n--) {
            text.append("s" + draw(0, houses - 1) + "," + draw(0, goods - 1) + "," + draw(0, close ? 40 : 15) + ";");
        }
        for (int n = draw(0, 8); n > 0; n--) {
            text.append("e" + draw(0, houses - 1) + "," + draw(0, goods - 1) + "," + draw(1, 20) + ";");
        }
        for (int n = draw(0, 3); n > 0; n--) {
            text.append("k" + draw(0, goods - 1) + "," + draw(0, goods - 1) + "," + draw(1, 9) + ";");
        }
        int rest = 10;
        for (int n = draw(0, 4); n > 0; n--) {
            int chance = n == 1 ? rest : draw(0, rest);
            rest -= chance;
            text.append("d" + draw(0, 20) + "," + chance + ";");
        }
        if (random.nextInt(5) == 0) {
            int place = random.nextInt(text.length());
            text.setCharAt(place, "0123456789,;ghsedk ".charAt(random.nextInt(19)));
        }
        return text.length() > 200 ? text.substring(0, text.lastIndexOf(";", 199) + 1) : text.toString();
    }

    private void drawnCall() {
        String[] words = CALLS[random.nextInt(CALLS.length)].split(" ");
        boolean rare = words[0].equals("lay") || words[0].equals("wipe") || words[0].equals("write");
        if (rare && random.nextInt(20) != 0) {
            return;
        }
        int[] a = new int[words.length / 2];
        for (int i = 0; i < a.length; i++) {
            a[i] = draw(Integer.parseInt(words[2 * i + 1]), Integer.parseInt(words[2 * i + 2]));
            if (random.nextInt(40) == 0) {
                a[i] = STRANGE[random.nextInt(STRANGE.length)];
            }
        }
        call(words[0], a);
    }

    private boolean isRight() {
        if (random.nextInt(8) != 0) {
            write(drawnText());
        }
        while (calls < 512 && !wrong) {
            drawnCall();
            if (plain.now.minute == 60 && random.nextInt(4) == 0) {
                call(random.nextBoolean() ? "undo" : "back");
            }
        }
        return !wrong;
    }

    public static void main(String[] args) {
        int runs = args.length > 0 ? Integer.parseInt(args[0]) : 1500;
        for (int seed = 1; seed <= runs; seed++) {
            if (!new PlainModelTest(seed).isRight()) {
                System.out.println("seed " + seed + " is wrong");
                System.exit(1);
            }
        }
        System.out.println(runs + " drawn runs are right");
    }
}
