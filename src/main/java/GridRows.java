import java.util.Arrays;

/** Rows of grid points sent by a register with memory, and the row nearest to what was heard. */
public final class GridRows {
    public static final int NONE = -1, NEVER = 99999999, UNKNOWN = -1000000001, OUTSIDE = -1000000002, NOT = -1000000003, FULL = -1000000004;

    private static final int POINTS = 16, FAMILIES = 4, CHOICES = 4, BITS = 2;
    private static final int MOST_MEMORY = 3, MOST_STATES = 8, MOST_STEPS = 24, MOST_HEARD_PLACE = 99;
    private static final int MOST_UNDONE = 8, IMAGES = 2, MOST_SEED = 999999;
    private static final int LONGEST_PARTING = 30;
    private static final int DASH = 45, FIRST_FIGURE = 48, FIRST_LETTER = 65;
    private static final int STEPS_IN_GROUP = 4, SIGNS_IN_GROUP = 9;

    private final Moment now;
    private final Past past;
    private final Moment[] images;
    private final boolean[] kept;
    private final Lots lots;
    private final Search search;
    private final Parting parting;
    private final Turning turning;

    public GridRows() {
        now = new Moment();
        past = new Past();
        images = new Moment[IMAGES];
        for (int i = 0; i < IMAGES; i++) {
            images[i] = new Moment();
        }
        kept = new boolean[IMAGES];
        lots = new Lots();
        search = new Search();
        parting = new Parting();
        turning = new Turning();
    }

    // ---- the code

    public int code(int m, int g, int h) {
        if (m < 1 || m > MOST_MEMORY) {
            return OUTSIDE;
        }
        int mostRule = (1 << (m + 1)) - 1;
        if (isOutside(g, 1, mostRule) || isOutside(h, 1, mostRule)) {
            return OUTSIDE;
        }
        past.push(now);
        now.code.set(m, g, h);
        now.clear();
        now.ending = NONE;
        return now.code.states();
    }

    public int send(int u, int w) {
        if (isOutside(u, 0, BITS - 1) || isOutside(w, 0, CHOICES - 1)) {
            return OUTSIDE;
        }
        if (now.row.isFull()) {
            return FULL;
        }
        past.push(now);
        return now.row.append(now.code, u, w);
    }

    public int hear(int x, int y) {
        if (isOutside(x, -MOST_HEARD_PLACE, MOST_HEARD_PLACE) || isOutside(y, -MOST_HEARD_PLACE, MOST_HEARD_PLACE)) {
            return OUTSIDE;
        }
        if (now.places.isFull()) {
            return FULL;
        }
        past.push(now);
        now.places.append(x, y);
        return now.places.count;
    }

    public int drift(int n, int seed) {
        if (isOutside(n, 1, MOST_STEPS) || isOutside(seed, 1, MOST_SEED)) {
            return OUTSIDE;
        }
        past.push(now);
        lots.begin(seed);
        int done = 0;
        while (done < n && !now.row.isFull() && !now.places.isFull()) {
            int u = lots.draw(BITS);
            int w = lots.draw(CHOICES);
            int p = now.row.append(now.code, u, w);
            int x = Grid.xOf(p) + lots.draw(25) - 12;
            int y = Grid.yOf(p) + lots.draw(25) - 12;
            now.places.append(x, y);
            done++;
        }
        return done;
    }

    public int wipe() {
        past.push(now);
        int both = now.row.count + now.places.count;
        now.clear();
        return both;
    }

    public int end(int state) {
        if (state != NONE && !isState(state)) {
            return UNKNOWN;
        }
        past.push(now);
        int before = now.ending;
        now.ending = state;
        return before;
    }

    public int undo() {
        if (past.count == 0) {
            return NOT;
        }
        past.popInto(now);
        return past.count;
    }

    public int told(int what) {
        switch (what) {
            case 0: return now.code.memory;
            case 1: return now.code.ruleG;
            case 2: return now.code.ruleH;
            case 3: return now.code.states();
            case 4: return now.row.count;
            case 5: return now.places.count;
            case 6: return now.row.lastState();
            case 7: return now.ending;
            case 8: return seekNearest();
            case 9:
                seekNearest();
                return countUnlike();
            case 10: return parting.leastSum(now.code);
            case 11: return turning.holdsFor(now.code) ? 1 : 0;
            case 12:
                seekNearest();
                return countSigns();
            case 13: return past.count;
            default: return OUTSIDE;
        }
    }

    public int point(int p, int what) {
        if (!isPoint(p)) {
            return UNKNOWN;
        }
        switch (what) {
            case 0: return Grid.xOf(p);
            case 1: return Grid.yOf(p);
            case 2: return Grid.familyOf(p);
            case 3: return Grid.rankOf(p);
            case 4: return Grid.turnOf(p);
            default: return OUTSIDE;
        }
    }

    public int member(int family, int w) {
        if (!isFamily(family)) {
            return UNKNOWN;
        }
        if (isOutside(w, 0, CHOICES - 1)) {
            return OUTSIDE;
        }
        return Grid.pointOf(family, w);
    }

    public int apart(int family, int other) {
        if (!isFamily(family) || !isFamily(other)) {
            return UNKNOWN;
        }
        return Grid.gapOf(family, other);
    }

    public int distance(int p, int q) {
        if (!isPoint(p) || !isPoint(q) || p == q) {
            return UNKNOWN;
        }
        return Grid.farFrom(p, Grid.xOf(q), Grid.yOf(q));
    }

    public int turned(int family) {
        if (!isFamily(family)) {
            return UNKNOWN;
        }
        return Grid.turnOfFamily(family);
    }

    public int next(int state, int u, int what) {
        if (!isState(state)) {
            return UNKNOWN;
        }
        if (isOutside(u, 0, BITS - 1)) {
            return OUTSIDE;
        }
        switch (what) {
            case 0: return now.code.familyFrom(state, u);
            case 1: return now.code.stateAfter(state, u);
            default: return OUTSIDE;
        }
    }

    public int sent(int k, int what) {
        if (isOutside(k, 0, now.row.count - 1)) {
            return UNKNOWN;
        }
        return now.row.partOf(k, what);
    }

    public int heard(int k, int what) {
        if (isOutside(k, 0, now.places.count - 1)) {
            return UNKNOWN;
        }
        switch (what) {
            case 0: return now.places.xs[k];
            case 1: return now.places.ys[k];
            case 2: return Grid.pointAt(now.places.xs[k], now.places.ys[k]);
            default: return OUTSIDE;
        }
    }

    // ---- what was sent, by what was heard

    public int nearest(int k, int what) {
        if (isOutside(k, 0, now.places.count - 1)) {
            return UNKNOWN;
        }
        if (isOutside(what, 0, 3)) {
            return OUTSIDE;
        }
        if (seekNearest() == NEVER) {
            return NONE;
        }
        return search.row.partOf(k, what);
    }

    public int ahead(int k, int state) {
        if (!isState(state)) {
            return UNKNOWN;
        }
        if (isOutside(k, 0, now.places.count)) {
            return OUTSIDE;
        }
        return search.seek(now, k, state);
    }

    public int decided(int k, int t) {
        if (isOutside(k, 0, now.places.count - 1)) {
            return UNKNOWN;
        }
        if (isOutside(t, 0, MOST_STEPS - 1)) {
            return OUTSIDE;
        }
        int wanted = k + t + 1;
        if (wanted > now.places.count) {
            return NONE;
        }
        search.seek(now, wanted, NONE);
        return search.row.points[k];
    }

    public int cost() {
        int both = Math.min(now.row.count, now.places.count);
        int sum = 0;
        for (int k = 0; k < both; k++) {
            sum += Grid.farFrom(now.row.points[k], now.places.xs[k], now.places.ys[k]);
        }
        return sum;
    }

    public int sign(int i) {
        if (i < 0) {
            return OUTSIDE;
        }
        seekNearest();
        if (i >= countSigns()) {
            return NONE;
        }
        int inGroup = i % SIGNS_IN_GROUP;
        if (inGroup == SIGNS_IN_GROUP - 1) {
            return DASH;
        }
        int k = i / SIGNS_IN_GROUP * STEPS_IN_GROUP + inGroup / 2;
        if (inGroup % 2 == 0) {
            return FIRST_LETTER + Grid.familyOf(search.row.points[k]);
        }
        return FIRST_FIGURE + search.row.choices[k];
    }

    // ---- images

    public int keep(int i) {
        if (isOutside(i, 0, IMAGES - 1)) {
            return UNKNOWN;
        }
        images[i].become(now);
        kept[i] = true;
        past.forget();
        return now.places.count;
    }

    public int goBack(int i) {
        if (isOutside(i, 0, IMAGES - 1)) {
            return UNKNOWN;
        }
        if (!kept[i]) {
            return NOT;
        }
        now.become(images[i]);
        past.forget();
        return now.places.count;
    }

    private static boolean isOutside(int number, int least, int most) {
        return number < least || number > most;
    }

    private static boolean isPoint(int p) {
        return p >= 0 && p < POINTS;
    }

    private static boolean isFamily(int family) {
        return family >= 0 && family < FAMILIES;
    }

    private boolean isState(int state) {
        return state >= 0 && state < now.code.states();
    }

    private int seekNearest() {
        return search.seek(now, now.places.count, now.ending);
    }

    /** Of the row last sought; without a row there is no step that both have, so the answer is then 0. */
    private int countUnlike() {
        int both = Math.min(now.row.count, search.row.count);
        int unlike = 0;
        for (int k = 0; k < both; k++) {
            if (now.row.points[k] != search.row.points[k]) {
                unlike++;
            }
        }
        return unlike;
    }

    /** Of the row last sought. */
    private int countSigns() {
        int steps = search.row.count;
        if (steps == 0) {
            return 0;
        }
        return 2 * steps + (steps - 1) / STEPS_IN_GROUP;
    }

    /** The points and families, which no call changes. */
    private static final class Grid {
        private Grid() {
        }

        static int xOf(int p) {
            return 20 * (p / 4) - 30;
        }

        static int yOf(int p) {
            return 20 * (p % 4) - 30;
        }

        static int familyOf(int p) {
            int i = p / 4;
            int j = p % 4;
            return 2 * ((i + j) % 2) + j % 2;
        }

        /** A family has every other column and every other line, so halves of i and j number its points. */
        static int rankOf(int p) {
            int i = p / 4;
            int j = p % 4;
            return 2 * (i / 2) + j / 2;
        }

        static int pointOf(int family, int rank) {
            int oddLine = family % 2;
            int oddColumn = (family / 2 + oddLine) % 2;
            int i = oddColumn + 2 * (rank / 2);
            int j = oddLine + 2 * (rank % 2);
            return 4 * i + j;
        }

        /** X, Y comes to -Y, X: the new i is 3 less the old j, the new j is the old i. */
        static int turnOf(int p) {
            return 4 * (3 - p % 4) + p / 4;
        }

        /** A turn carries whole families over, so any one point of it shows which. */
        static int turnOfFamily(int family) {
            return familyOf(turnOf(pointOf(family, 0)));
        }

        static int farFrom(int p, int x, int y) {
            int dx = xOf(p) - x;
            int dy = yOf(p) - y;
            return dx * dx + dy * dy;
        }

        static int pointAt(int x, int y) {
            int best = 0;
            for (int p = 1; p < POINTS; p++) {
                if (farFrom(p, x, y) < farFrom(best, x, y)) {
                    best = p;
                }
            }
            return best;
        }

        static int gapOf(int family, int other) {
            int least = NEVER;
            for (int v = 0; v < CHOICES; v++) {
                for (int w = 0; w < CHOICES; w++) {
                    int p = pointOf(family, v);
                    int q = pointOf(other, w);
                    if (p != q) {
                        least = Math.min(least, farFrom(p, xOf(q), yOf(q)));
                    }
                }
            }
            return least;
        }
    }

    /** The memory and the two rules. */
    private static final class Code {
        int memory;
        int ruleG;
        int ruleH;

        Code() {
            set(2, 5, 2);
        }

        void set(int m, int g, int h) {
            memory = m;
            ruleG = g;
            ruleH = h;
        }

        int states() {
            return 1 << memory;
        }

        int familyFrom(int state, int u) {
            int register = registerOf(state, u);
            return 2 * (Integer.bitCount(register & ruleG) % 2) + Integer.bitCount(register & ruleH) % 2;
        }

        int stateAfter(int state, int u) {
            return registerOf(state, u) / 2;
        }

        private int registerOf(int state, int u) {
            return (u << memory) + state;
        }
    }

    /** Steps from state 0 on. */
    private static final class Row {
        int count;
        final int[] bits = new int[MOST_STEPS];
        final int[] choices = new int[MOST_STEPS];
        final int[] points = new int[MOST_STEPS];
        final int[] states = new int[MOST_STEPS];

        boolean isFull() {
            return count >= MOST_STEPS;
        }

        int lastState() {
            return count == 0 ? 0 : states[count - 1];
        }

        int append(Code code, int u, int w) {
            if (isFull()) {
                return FULL;
            }
            int from = lastState();
            int p = Grid.pointOf(code.familyFrom(from, u), w);
            bits[count] = u;
            choices[count] = w;
            points[count] = p;
            states[count] = code.stateAfter(from, u);
            count++;
            return p;
        }

        int partOf(int k, int what) {
            switch (what) {
                case 0: return bits[k];
                case 1: return choices[k];
                case 2: return points[k];
                case 3: return states[k];
                default: return OUTSIDE;
            }
        }

        void become(Row other) {
            count = other.count;
            System.arraycopy(other.bits, 0, bits, 0, count);
            System.arraycopy(other.choices, 0, choices, 0, count);
            System.arraycopy(other.points, 0, points, 0, count);
            System.arraycopy(other.states, 0, states, 0, count);
        }
    }

    /** What was heard. */
    private static final class Places {
        int count;
        final int[] xs = new int[MOST_STEPS];
        final int[] ys = new int[MOST_STEPS];

        boolean isFull() {
            return count >= MOST_STEPS;
        }

        void append(int x, int y) {
            if (isFull()) {
                return;
            }
            xs[count] = x;
            ys[count] = y;
            count++;
        }

        void become(Places other) {
            count = other.count;
            System.arraycopy(other.xs, 0, xs, 0, count);
            System.arraycopy(other.ys, 0, ys, 0, count);
        }
    }

    /** All that can be undone and that images keep. */
    private static final class Moment {
        final Code code = new Code();
        final Row row = new Row();
        final Places places = new Places();
        int ending = NONE;

        void clear() {
            row.count = 0;
            places.count = 0;
        }

        void become(Moment other) {
            code.set(other.code.memory, other.code.ruleG, other.code.ruleH);
            row.become(other.row);
            places.become(other.places);
            ending = other.ending;
        }
    }

    /** The latest moments that can be gone back to, in a ring so that the oldest is lost first. */
    private static final class Past {
        int count;
        private int oldest;
        private final Moment[] ring = new Moment[MOST_UNDONE];

        Past() {
            for (int i = 0; i < MOST_UNDONE; i++) {
                ring[i] = new Moment();
            }
        }

        void push(Moment moment) {
            ring[(oldest + count) % MOST_UNDONE].become(moment);
            if (count < MOST_UNDONE) {
                count++;
            } else {
                oldest = (oldest + 1) % MOST_UNDONE;
            }
        }

        void popInto(Moment moment) {
            if (count == 0) {
                return;
            }
            count--;
            moment.become(ring[(oldest + count) % MOST_UNDONE]);
        }

        void forget() {
            count = 0;
        }
    }

    /** Numbers by lots of a seed. */
    private static final class Lots {
        private long x;

        void begin(int seed) {
            x = seed;
        }

        int draw(int kinds) {
            x = x * 16807L % 2147483647L;
            return kinds < 1 ? 0 : (int) (x % kinds);
        }
    }

    /** The row of least cost, found from its end so that the first of like ones can be walked from its beginning. */
    private static final class Search {
        final Row row = new Row();
        private final int[] choices = new int[MOST_STEPS * FAMILIES];
        private final int[] tolls = new int[MOST_STEPS * FAMILIES];
        private final int[] rest = new int[(MOST_STEPS + 1) * MOST_STATES];

        /** Leaves the row of the first steps heard in row (empty, if there is none) and answers its cost or NEVER. */
        int seek(Moment moment, int steps, int ending) {
            weigh(moment.places, steps);
            reckon(moment.code, steps, ending);
            row.count = 0;
            if (rest[0] < NEVER) {
                walk(moment.code, steps);
            }
            return rest[0];
        }

        /** Within a family the choice changes nothing later, so each step needs its best choice alone. */
        private void weigh(Places places, int steps) {
            for (int k = 0; k < steps; k++) {
                for (int family = 0; family < FAMILIES; family++) {
                    choose(k, family, places.xs[k], places.ys[k]);
                }
            }
        }

        private void choose(int k, int family, int x, int y) {
            int at = k * FAMILIES + family;
            tolls[at] = NEVER;
            for (int w = 0; w < CHOICES; w++) {
                int far = Grid.farFrom(Grid.pointOf(family, w), x, y);
                if (far < tolls[at]) {
                    tolls[at] = far;
                    choices[at] = w;
                }
            }
        }

        private void reckon(Code code, int steps, int ending) {
            for (int state = 0; state < MOST_STATES; state++) {
                rest[steps * MOST_STATES + state] = ending == NONE || ending == state ? 0 : NEVER;
            }
            for (int k = steps - 1; k >= 0; k--) {
                for (int state = 0; state < code.states(); state++) {
                    rest[k * MOST_STATES + state] = Math.min(restBy(code, k, state, 0), restBy(code, k, state, 1));
                }
            }
        }

        private int restBy(Code code, int k, int state, int u) {
            int later = rest[(k + 1) * MOST_STATES + code.stateAfter(state, u)];
            if (later == NEVER) {
                return NEVER;
            }
            return later + tolls[k * FAMILIES + code.familyFrom(state, u)];
        }

        private void walk(Code code, int steps) {
            for (int k = 0; k < steps; k++) {
                int state = row.lastState();
                int u = restBy(code, k, state, 0) <= restBy(code, k, state, 1) ? 0 : 1;
                row.append(code, u, choices[k * FAMILIES + code.familyFrom(state, u)]);
            }
        }
    }

    /** The least distance between two rows that part and come together again. */
    private static final class Parting {
        private final int[] gaps = new int[FAMILIES * FAMILIES];
        private final int[] sums = new int[MOST_STATES * MOST_STATES];
        private final int[] laterSums = new int[MOST_STATES * MOST_STATES];

        int leastSum(Code code) {
            int least = NEVER;
            for (int family = 0; family < FAMILIES; family++) {
                least = Math.min(least, Grid.gapOf(family, family));
            }
            fillGaps();
            part(code);
            for (int step = 2; step <= LONGEST_PARTING; step++) {
                least = advance(code, least);
            }
            return least;
        }

        private void fillGaps() {
            for (int family = 0; family < FAMILIES; family++) {
                for (int other = 0; other < FAMILIES; other++) {
                    gaps[family * FAMILIES + other] = family == other ? 0 : Grid.gapOf(family, other);
                }
            }
        }

        /** The bit is the highest of the next state, so unlike bits never come together in the first step. */
        private void part(Code code) {
            Arrays.fill(sums, NEVER);
            for (int state = 0; state < code.states(); state++) {
                int pair = code.stateAfter(state, 0) * MOST_STATES + code.stateAfter(state, 1);
                sums[pair] = Math.min(sums[pair], gapOfSteps(code, state, 0, state, 1));
            }
        }

        /** Takes pairs one step on, but for those whose sum, as sums never fall, can no longer be the least. */
        private int advance(Code code, int leastBefore) {
            Arrays.fill(laterSums, NEVER);
            int least = leastBefore;
            for (int a = 0; a < code.states(); a++) {
                for (int b = 0; b < code.states(); b++) {
                    if (sums[a * MOST_STATES + b] < least) {
                        least = Math.min(least, advancePair(code, a, b));
                    }
                }
            }
            System.arraycopy(laterSums, 0, sums, 0, sums.length);
            return least;
        }

        /** Answers the least sum with which the pair comes together by this step. */
        private int advancePair(Code code, int a, int b) {
            int least = NEVER;
            for (int u = 0; u < BITS; u++) {
                for (int v = 0; v < BITS; v++) {
                    int sum = sums[a * MOST_STATES + b] + gapOfSteps(code, a, u, b, v);
                    int nextA = code.stateAfter(a, u);
                    int nextB = code.stateAfter(b, v);
                    if (nextA == nextB) {
                        least = Math.min(least, sum);
                    } else {
                        int pair = nextA * MOST_STATES + nextB;
                        laterSums[pair] = Math.min(laterSums[pair], sum);
                    }
                }
            }
            return least;
        }

        private int gapOfSteps(Code code, int a, int u, int b, int v) {
            return gaps[code.familyFrom(a, u) * FAMILIES + code.familyFrom(b, v)];
        }
    }

    /** Whether turned rows are rows still. */
    private static final class Turning {
        private static final int SETS = 1 << MOST_STATES;

        /** By a set of states: the states that a row can be in while its turned row can be in just that set. */
        private final int[] reached = new int[SETS];
        private boolean grown;

        boolean holdsFor(Code code) {
            int all = (1 << code.states()) - 1;
            Arrays.fill(reached, 0);
            reached[all] = all;
            grown = true;
            for (int round = 0; grown && round <= SETS * MOST_STATES; round++) {
                grown = false;
                for (int set = 1; set <= all; set++) {
                    if (reached[set] != 0 && !carryOn(code, set)) {
                        return false;
                    }
                }
            }
            return true;
        }

        /** False: some row goes on where its turned row cannot. */
        private boolean carryOn(Code code, int set) {
            for (int state = 0; state < code.states(); state++) {
                if ((reached[set] >> state & 1) == 0) {
                    continue;
                }
                for (int u = 0; u < BITS; u++) {
                    int turnedSet = follow(code, set, Grid.turnOfFamily(code.familyFrom(state, u)));
                    if (turnedSet == 0) {
                        return false;
                    }
                    mark(turnedSet, code.stateAfter(state, u));
                }
            }
            return true;
        }

        private void mark(int set, int state) {
            if ((reached[set] >> state & 1) == 0) {
                reached[set] |= 1 << state;
                grown = true;
            }
        }

        /** The states to which steps of this family lead from the set. */
        private static int follow(Code code, int set, int family) {
            int to = 0;
            for (int state = 0; state < code.states(); state++) {
                for (int u = 0; u < BITS; u++) {
                    if ((set >> state & 1) == 1 && code.familyFrom(state, u) == family) {
                        to |= 1 << code.stateAfter(state, u);
                    }
                }
            }
            return to;
        }
    }
}
