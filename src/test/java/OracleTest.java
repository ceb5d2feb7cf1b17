import java.util.ArrayList;
import java.util.HashSet;
import java.util.List;
import java.util.Random;
import java.util.Set;

/**
 * Plays runs of calls by lots (with a fixed seed) on GridRows and on a second program that was
 * written from the document alone and by other means, and compares every answer.
 */
public final class OracleTest {
    static final int NONE = -1, NEVER = 99999999;
    static final int UNKNOWN = -1000000001, OUTSIDE = -1000000002, NOT = -1000000003, FULL = -1000000004;

    /** The second program: tables by search over the points, rows as lists, all copied at each change. */
    static final class Model {
        record State(int m, int g, int h, List<int[]> sent, List<int[]> heard, int end) {
        }

        /** A row and its cost; steps are {bit, choice, point, state behind}. */
        record Path(int cost, List<int[]> steps) {
        }

        State now = new State(2, 5, 2, List.of(), List.of(), NONE);
        final List<State> past = new ArrayList<>();
        final State[] images = new State[2];

        static int x(int p) {
            return 20 * (p >> 2) - 30;
        }

        static int y(int p) {
            return 20 * (p & 3) - 30;
        }

        static int family(int p) {
            return ((p >> 2) + (p & 3)) % 2 * 2 + p % 2;
        }

        static List<Integer> members(int family) {
            List<Integer> found = new ArrayList<>();
            for (int p = 0; p < 16; p++) {
                if (family(p) == family) {
                    found.add(p);
                }
            }
            return found;
        }

        static int turn(int p) {
            for (int q = 0; q < 16; q++) {
                if (x(q) == -y(p) && y(q) == x(p)) {
                    return q;
                }
            }
            throw new IllegalStateException("a turned point is no point");
        }

        static int turnFamily(int family) {
            int to = family(turn(members(family).get(0)));
            for (int p : members(family)) {
                if (family(turn(p)) != to) {
                    throw new IllegalStateException("a family is torn by the turn");
                }
            }
            return to;
        }

        static int far(int x, int y, int p) {
            return (x - x(p)) * (x - x(p)) + (y - y(p)) * (y - y(p));
        }

        static int gap(int f, int g) {
            int least = Integer.MAX_VALUE;
            for (int p : members(f)) {
                for (int q : members(g)) {
                    if (p != q) {
                        least = Math.min(least, far(x(p), y(p), q));
                    }
                }
            }
            return least;
        }

        static int parity(int bits) {
            int odd = 0;
            for (int k = 0; k < 32; k++) {
                odd ^= bits >>> k & 1;
            }
            return odd;
        }

        int states() {
            return now.m == 1 ? 2 : now.m == 2 ? 4 : 8;
        }

        int familyFrom(int state, int u) {
            int r = u * states() + state;
            return 2 * parity(r & now.g) + parity(r & now.h);
        }

        int after(int state, int u) {
            return (u * states() + state) / 2;
        }

        static int behind(List<int[]> steps) {
            return steps.isEmpty() ? 0 : steps.get(steps.size() - 1)[3];
        }

        List<int[]> longer(List<int[]> steps, int u, int w) {
            List<int[]> more = new ArrayList<>(steps);
            int state = behind(steps);
            more.add(new int[] {u, w, members(familyFrom(state, u)).get(w), after(state, u)});
            return more;
        }

        void change(State to) {
            past.add(now);
            if (past.size() > 8) {
                past.remove(0);
            }
            now = to;
        }

        static boolean in(int n, int least, int most) {
            return least <= n && n <= most;
        }

        static int compare(List<int[]> a, List<int[]> b) {
            for (int k = 0; k < a.size(); k++) {
                for (int part = 0; part < 2; part++) {
                    if (a.get(k)[part] != b.get(k)[part]) {
                        return a.get(k)[part] - b.get(k)[part];
                    }
                }
            }
            return 0;
        }

        /** Forward, with whole rows kept for each state: the first of the cheapest ones that come to it. */
        Path[] survivors(int count) {
            Path[] best = new Path[8];
            best[0] = new Path(0, List.of());
            for (int k = 0; k < count; k++) {
                Path[] later = new Path[8];
                for (Path path : best) {
                    for (int choice = 0; path != null && choice < 8; choice++) {
                        List<int[]> steps = longer(path.steps, choice / 4, choice % 4);
                        int p = steps.get(k)[2];
                        Path found = new Path(path.cost + far(now.heard.get(k)[0], now.heard.get(k)[1], p), steps);
                        int to = behind(steps);
                        later[to] = better(later[to], found);
                    }
                }
                best = later;
            }
            return best;
        }

        static Path better(Path a, Path b) {
            if (a == null || b == null) {
                return a == null ? b : a;
            }
            if (a.cost != b.cost) {
                return a.cost < b.cost ? a : b;
            }
            return compare(a.steps, b.steps) <= 0 ? a : b;
        }

        Path nearestOf(int count, int end) {
            Path best = null;
            Path[] all = survivors(count);
            for (int s = 0; s < 8; s++) {
                if (end == NONE || end == s) {
                    best = better(best, all[s]);
                }
            }
            return best;
        }

        Path nearestNow() {
            return nearestOf(now.heard.size(), now.end);
        }

        String written() {
            Path path = nearestNow();
            StringBuilder text = new StringBuilder();
            for (int k = 0; path != null && k < path.steps.size(); k++) {
                if (k > 0 && k % 4 == 0) {
                    text.append('-');
                }
                text.append("ABCD".charAt(family(path.steps.get(k)[2]))).append(path.steps.get(k)[1]);
            }
            return text.toString();
        }

        /**
         * The gaps of two families depend on their exclusive-or alone and the register is linear, so
         * two rows are as far apart as their exclusive-or is from the row of noughts.
         */
        int free() {
            int best = 1600;
            int[] sums = new int[8];
            java.util.Arrays.fill(sums, NEVER);
            sums[after(0, 1)] = gapOrNought(familyFrom(0, 1));
            for (int step = 2; step <= 30; step++) {
                int[] later = new int[8];
                java.util.Arrays.fill(later, NEVER);
                for (int s = 1; s < states(); s++) {
                    for (int u = 0; u < 2; u++) {
                        int sum = sums[s] + gapOrNought(familyFrom(s, u));
                        int to = after(s, u);
                        if (to == 0) {
                            best = Math.min(best, sum);
                        } else {
                            later[to] = Math.min(later[to], sum);
                        }
                    }
                }
                sums = later;
            }
            return best;
        }

        static int gapOrNought(int family) {
            return family == 0 ? 0 : gap(0, family);
        }

        /** All rows of families of one length, each as a number by four; five steps tell codes apart here. */
        int turnsAlike() {
            for (int length = 1; length <= 5; length++) {
                Set<Integer> rows = new HashSet<>();
                Set<Integer> turnedRows = new HashSet<>();
                for (int s = 0; s < states(); s++) {
                    for (int bits = 0; bits < 1 << length; bits++) {
                        int state = s;
                        int row = 0;
                        int turnedRow = 0;
                        for (int k = 0; k < length; k++) {
                            int f = familyFrom(state, bits >> k & 1);
                            row = row * 4 + f;
                            turnedRow = turnedRow * 4 + turnFamily(f);
                            state = after(state, bits >> k & 1);
                        }
                        rows.add(row);
                        turnedRows.add(turnedRow);
                    }
                }
                if (!rows.containsAll(turnedRows)) {
                    return 0;
                }
            }
            return 1;
        }

        int unlike() {
            Path path = nearestNow();
            int count = 0;
            for (int k = 0; path != null && k < Math.min(path.steps.size(), now.sent.size()); k++) {
                count += path.steps.get(k)[2] == now.sent.get(k)[2] ? 0 : 1;
            }
            return count;
        }

        int code(int m, int g, int h) {
            if (!in(m, 1, 3) || !in(g, 1, (2 << m) - 1) || !in(h, 1, (2 << m) - 1)) {
                return OUTSIDE;
            }
            change(new State(m, g, h, List.of(), List.of(), NONE));
            return states();
        }

        int send(int u, int w) {
            if (!in(u, 0, 1) || !in(w, 0, 3)) {
                return OUTSIDE;
            }
            if (now.sent.size() == 24) {
                return FULL;
            }
            change(new State(now.m, now.g, now.h, longer(now.sent, u, w), now.heard, now.end));
            return now.sent.get(now.sent.size() - 1)[2];
        }

        int hear(int x, int y) {
            if (!in(x, -99, 99) || !in(y, -99, 99)) {
                return OUTSIDE;
            }
            if (now.heard.size() == 24) {
                return FULL;
            }
            List<int[]> more = new ArrayList<>(now.heard);
            more.add(new int[] {x, y});
            change(new State(now.m, now.g, now.h, now.sent, more, now.end));
            return more.size();
        }

        int drift(int n, int seed) {
            if (!in(n, 1, 24) || !in(seed, 1, 999999)) {
                return OUTSIDE;
            }
            List<int[]> steps = now.sent;
            List<int[]> places = new ArrayList<>(now.heard);
            java.math.BigInteger x = java.math.BigInteger.valueOf(seed);
            int done = 0;
            for (; done < n && steps.size() < 24 && places.size() < 24; done++) {
                int[] lots = new int[4];
                int[] kinds = {2, 4, 25, 25};
                for (int i = 0; i < 4; i++) {
                    x = x.multiply(java.math.BigInteger.valueOf(16807)).mod(java.math.BigInteger.valueOf(2147483647));
                    lots[i] = x.mod(java.math.BigInteger.valueOf(kinds[i])).intValue();
                }
                steps = longer(steps, lots[0], lots[1]);
                int p = steps.get(steps.size() - 1)[2];
                places.add(new int[] {x(p) + lots[2] - 12, y(p) + lots[3] - 12});
            }
            change(new State(now.m, now.g, now.h, steps, places, now.end));
            return done;
        }

        int wipe() {
            int both = now.sent.size() + now.heard.size();
            change(new State(now.m, now.g, now.h, List.of(), List.of(), now.end));
            return both;
        }

        int end(int state) {
            if (!in(state, -1, states() - 1)) {
                return UNKNOWN;
            }
            int was = now.end;
            change(new State(now.m, now.g, now.h, now.sent, now.heard, state));
            return was;
        }

        int undo() {
            if (past.isEmpty()) {
                return NOT;
            }
            now = past.remove(past.size() - 1);
            return past.size();
        }

        int told(int what) {
            return switch (what) {
                case 0 -> now.m;
                case 1 -> now.g;
                case 2 -> now.h;
                case 3 -> states();
                case 4 -> now.sent.size();
                case 5 -> now.heard.size();
                case 6 -> behind(now.sent);
                case 7 -> now.end;
                case 8 -> nearestNow() == null ? NEVER : nearestNow().cost;
                case 9 -> unlike();
                case 10 -> free();
                case 11 -> turnsAlike();
                case 12 -> written().length();
                case 13 -> past.size();
                default -> OUTSIDE;
            };
        }

        int point(int p, int what) {
            if (!in(p, 0, 15)) {
                return UNKNOWN;
            }
            return switch (what) {
                case 0 -> x(p);
                case 1 -> y(p);
                case 2 -> family(p);
                case 3 -> members(family(p)).indexOf(p);
                case 4 -> turn(p);
                default -> OUTSIDE;
            };
        }

        int member(int family, int w) {
            return !in(family, 0, 3) ? UNKNOWN : !in(w, 0, 3) ? OUTSIDE : members(family).get(w);
        }

        int apart(int f, int g) {
            return in(f, 0, 3) && in(g, 0, 3) ? gap(f, g) : UNKNOWN;
        }

        int distance(int p, int q) {
            return in(p, 0, 15) && in(q, 0, 15) && p != q ? far(x(p), y(p), q) : UNKNOWN;
        }

        int turned(int family) {
            return in(family, 0, 3) ? turnFamily(family) : UNKNOWN;
        }

        int next(int state, int u, int what) {
            if (!in(state, 0, states() - 1)) {
                return UNKNOWN;
            }
            if (!in(u, 0, 1) || !in(what, 0, 1)) {
                return OUTSIDE;
            }
            return what == 0 ? familyFrom(state, u) : after(state, u);
        }

        int sent(int k, int what) {
            return !in(k, 0, now.sent.size() - 1) ? UNKNOWN : !in(what, 0, 3) ? OUTSIDE : now.sent.get(k)[what];
        }

        int heard(int k, int what) {
            if (!in(k, 0, now.heard.size() - 1)) {
                return UNKNOWN;
            }
            if (!in(what, 0, 2)) {
                return OUTSIDE;
            }
            int[] place = now.heard.get(k);
            if (what < 2) {
                return place[what];
            }
            int best = 15;
            for (int p = 14; p >= 0; p--) {
                best = far(place[0], place[1], p) <= far(place[0], place[1], best) ? p : best;
            }
            return best;
        }

        int nearest(int k, int what) {
            if (!in(k, 0, now.heard.size() - 1)) {
                return UNKNOWN;
            }
            if (!in(what, 0, 3)) {
                return OUTSIDE;
            }
            Path path = nearestNow();
            return path == null ? NONE : path.steps.get(k)[what];
        }

        int ahead(int k, int state) {
            if (!in(state, 0, states() - 1)) {
                return UNKNOWN;
            }
            if (!in(k, 0, now.heard.size())) {
                return OUTSIDE;
            }
            Path path = survivors(k)[state];
            return path == null ? NEVER : path.cost;
        }

        int decided(int k, int t) {
            if (!in(k, 0, now.heard.size() - 1)) {
                return UNKNOWN;
            }
            if (!in(t, 0, 23)) {
                return OUTSIDE;
            }
            return k + t + 1 > now.heard.size() ? NONE : nearestOf(k + t + 1, NONE).steps.get(k)[2];
        }

        int cost() {
            int sum = 0;
            for (int k = 0; k < now.sent.size() && k < now.heard.size(); k++) {
                sum += far(now.heard.get(k)[0], now.heard.get(k)[1], now.sent.get(k)[2]);
            }
            return sum;
        }

        int sign(int i) {
            return i < 0 ? OUTSIDE : i >= written().length() ? NONE : written().charAt(i);
        }

        int keep(int i) {
            if (!in(i, 0, 1)) {
                return UNKNOWN;
            }
            images[i] = now;
            past.clear();
            return now.heard.size();
        }

        int goBack(int i) {
            if (!in(i, 0, 1)) {
                return UNKNOWN;
            }
            if (images[i] == null) {
                return NOT;
            }
            now = images[i];
            past.clear();
            return now.heard.size();
        }
    }

    /** Arguments: mostly within the bounds or one beside them, now and then any number at all. */
    static final class Lots {
        final Random random;

        Lots(long seed) {
            random = new Random(seed);
        }

        int pick(int least, int most) {
            int kind = random.nextInt(40);
            if (kind == 0) {
                return random.nextInt();
            }
            if (kind == 1) {
                int[] edges = {Integer.MIN_VALUE, Integer.MAX_VALUE, least - 1, most + 1, -1, 0};
                return edges[random.nextInt(edges.length)];
            }
            if (kind == 2) {
                return random.nextBoolean() ? least : most;
            }
            return least + random.nextInt(most - least + 1);
        }

        /** Places on the lines half-way between points make rows that are equally near. */
        int place() {
            return random.nextInt(3) == 0 ? pick(-99, 99) : 10 * random.nextInt(9) - 40;
        }
    }

    static int wrong = 0;
    static long compared = 0;

    static void same(long run, int nth, String call, int got, int want) {
        compared++;
        if (got != want) {
            wrong++;
            if (wrong <= 20) {
                System.out.println("run " + run + ", call " + nth + ": " + call + " answered " + got + ", due is " + want);
            }
        }
    }

    static void change(long run, int nth, GridRows x, Model y, Lots r) {
        int kind = r.random.nextInt(34);
        if (kind < 10) {
            int a = r.pick(0, 1), b = r.pick(0, 3);
            same(run, nth, "send(" + a + ", " + b + ")", x.send(a, b), y.send(a, b));
        } else if (kind < 22) {
            int a = r.place(), b = r.place();
            same(run, nth, "hear(" + a + ", " + b + ")", x.hear(a, b), y.hear(a, b));
        } else if (kind < 24) {
            int a = r.random.nextBoolean() ? r.pick(1, 24) : r.pick(1, 4), b = r.pick(1, 999999);
            same(run, nth, "drift(" + a + ", " + b + ")", x.drift(a, b), y.drift(a, b));
        } else if (kind < 25) {
            same(run, nth, "wipe()", x.wipe(), y.wipe());
        } else if (kind < 29) {
            int a = r.pick(-1, y.states() - 1);
            same(run, nth, "end(" + a + ")", x.end(a), y.end(a));
        } else if (kind < 32) {
            same(run, nth, "undo()", x.undo(), y.undo());
        } else if (kind < 33) {
            int m = r.pick(1, 3), most = (2 << Math.min(3, Math.max(1, m))) - 1;
            int g = r.pick(1, most), h = r.pick(1, most);
            same(run, nth, "code(" + m + ", " + g + ", " + h + ")", x.code(m, g, h), y.code(m, g, h));
        } else {
            int i = r.pick(0, 1);
            if (r.random.nextBoolean()) {
                same(run, nth, "keep(" + i + ")", x.keep(i), y.keep(i));
            } else {
                same(run, nth, "goBack(" + i + ")", x.goBack(i), y.goBack(i));
            }
        }
    }

    static void ask(long run, int nth, GridRows x, Model y, Lots r) {
        int heard = Math.max(1, y.now.heard.size());
        int sent = Math.max(1, y.now.sent.size());
        int kind = r.random.nextInt(18);
        if (kind < 4) {
            int a = r.pick(0, 13);
            same(run, nth, "told(" + a + ")", x.told(a), y.told(a));
        } else if (kind < 7) {
            int a = r.pick(0, heard - 1), b = r.pick(0, 3);
            same(run, nth, "nearest(" + a + ", " + b + ")", x.nearest(a, b), y.nearest(a, b));
        } else if (kind < 9) {
            int a = r.pick(0, heard), b = r.pick(0, y.states() - 1);
            same(run, nth, "ahead(" + a + ", " + b + ")", x.ahead(a, b), y.ahead(a, b));
        } else if (kind < 11) {
            int a = r.pick(0, heard - 1), b = r.random.nextInt(4) == 0 ? r.pick(0, 23) : r.pick(0, 5);
            same(run, nth, "decided(" + a + ", " + b + ")", x.decided(a, b), y.decided(a, b));
        } else if (kind < 12) {
            same(run, nth, "cost()", x.cost(), y.cost());
        } else if (kind < 14) {
            int a = r.pick(0, 2 * heard + heard / 4);
            same(run, nth, "sign(" + a + ")", x.sign(a), y.sign(a));
        } else if (kind < 15) {
            int a = r.pick(0, sent - 1), b = r.pick(0, 3);
            same(run, nth, "sent(" + a + ", " + b + ")", x.sent(a, b), y.sent(a, b));
        } else if (kind < 16) {
            int a = r.pick(0, heard - 1), b = r.pick(0, 2);
            same(run, nth, "heard(" + a + ", " + b + ")", x.heard(a, b), y.heard(a, b));
        } else {
            askTables(run, nth, x, y, r);
        }
    }

    static void askTables(long run, int nth, GridRows x, Model y, Lots r) {
        int a = r.pick(0, 15), f = r.pick(0, 3), s = r.pick(0, y.states() - 1);
        int b;
        switch (r.random.nextInt(6)) {
            case 0:
                b = r.pick(0, 4);
                same(run, nth, "point(" + a + ", " + b + ")", x.point(a, b), y.point(a, b));
                break;
            case 1:
                b = r.pick(0, 3);
                same(run, nth, "member(" + f + ", " + b + ")", x.member(f, b), y.member(f, b));
                break;
            case 2:
                b = r.pick(0, 3);
                same(run, nth, "apart(" + f + ", " + b + ")", x.apart(f, b), y.apart(f, b));
                break;
            case 3:
                b = r.pick(0, 15);
                same(run, nth, "distance(" + a + ", " + b + ")", x.distance(a, b), y.distance(a, b));
                break;
            case 4:
                same(run, nth, "turned(" + f + ")", x.turned(f), y.turned(f));
                break;
            default:
                b = r.pick(0, 1);
                int what = r.pick(0, 1);
                same(run, nth, "next(" + s + ", " + b + ", " + what + ")", x.next(s, b, what), y.next(s, b, what));
        }
    }

    static void everyCode() {
        for (int m = 1; m <= 3; m++) {
            for (int g = 1; g < 2 << m; g++) {
                for (int h = 1; h < 2 << m; h++) {
                    GridRows x = new GridRows();
                    Model y = new Model();
                    String code = "code(" + m + ", " + g + ", " + h + ") then ";
                    same(0, 1, code, x.code(m, g, h), y.code(m, g, h));
                    same(0, 2, code + "told(10)", x.told(10), y.told(10));
                    same(0, 3, code + "told(11)", x.told(11), y.told(11));
                    same(0, 4, code + "drift(24, 5)", x.drift(24, 5), y.drift(24, 5));
                    same(0, 5, code + "told(8)", x.told(8), y.told(8));
                    same(0, 6, code + "told(9)", x.told(9), y.told(9));
                }
            }
        }
    }

    public static void main(String[] args) {
        everyCode();
        for (long run = 1; run <= 200; run++) {
            GridRows x = new GridRows();
            Model y = new Model();
            Lots r = new Lots(run);
            for (int nth = 1; nth <= 512; nth++) {
                if (r.random.nextInt(100) < 35) {
                    change(run, nth, x, y, r);
                } else {
                    ask(run, nth, x, y, r);
                }
            }
        }
        System.out.println(compared + " answers compared, " + wrong + " are not as due");
        if (wrong != 0) {
            System.exit(1);
        }
    }
}
