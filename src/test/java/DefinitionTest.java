import java.util.Random;

/**
 * What the document tells as the least or the first of many, counted out by its own words: every ROW of up to
 * four STEPS is tried, and for FREE every two rows that part and come together again within ten.
 */
public final class DefinitionTest {
    private static final int NONE = -1, NEVER = 99999999, MOST_STEPS = 4;
    /** Of 30 that the document allows; the least sum of any code comes within 8, and all 30 could not be counted out. */
    private static final int MOST_PARTED = 10;

    private static int wrong = 0;
    private static int asked = 0;

    private final int m;
    private final int g;
    private final int h;
    private final int[][] places;
    private final GridRows rows = new GridRows();

    private DefinitionTest(int m, int g, int h, int[][] places) {
        this.m = m;
        this.g = g;
        this.h = h;
        this.places = places;
        rows.code(m, g, h);
        for (int[] place : places) {
            rows.hear(place[0], place[1]);
        }
    }

    private void due(String call, int got, int want) {
        asked++;
        if (got != want) {
            wrong++;
            System.out.println("code " + m + ", " + g + ", " + h + ", HEARD " + java.util.Arrays.deepToString(places)
                + ", END " + rows.told(7) + ": " + call + " answered " + got + ", due is " + want);
        }
    }

    // ---- the words of the document

    private static int oddOnes(int bits) {
        int ones = 0;
        for (int k = 0; k < 4; k++) {
            ones += bits >> k & 1;
        }
        return ones % 2;
    }

    private int family(int state, int u) {
        int r = u * (1 << m) + state;
        return 2 * oddOnes(r & g) + oddOnes(r & h);
    }

    private int stateBehind(int state, int u) {
        return (u * (1 << m) + state) / 2;
    }

    private static int member(int family, int w) {
        int nth = 0;
        for (int i = 0; i < 4; i++) {
            for (int j = 0; j < 4; j++) {
                if (2 * ((i + j) % 2) + j % 2 == family && nth++ == w) {
                    return 4 * i + j;
                }
            }
        }
        throw new IllegalStateException("a FAMILY has four POINTS");
    }

    private static int distance(int p, int x, int y) {
        int dx = 20 * (p / 4) - 30 - x;
        int dy = 20 * (p % 4) - 30 - y;
        return dx * dx + dy * dy;
    }

    /** Of one row: BIT, CHOICE, POINT and STATE of each STEP, told as sent() and nearest() tell them. */
    private int[][] row(int number, int steps) {
        int[][] row = new int[steps][];
        int state = 0;
        for (int k = 0; k < steps; k++) {
            int step = number >> 3 * (steps - 1 - k) & 7;
            int u = step / 4;
            int w = step % 4;
            int p = member(family(state, u), w);
            state = stateBehind(state, u);
            row[k] = new int[] {u, w, p, state};
        }
        return row;
    }

    private int costOf(int[][] row) {
        int sum = 0;
        for (int k = 0; k < row.length; k++) {
            sum += distance(row[k][2], places[k][0], places[k][1]);
        }
        return sum;
    }

    /** Rows are numbered as they come STEP by STEP, by BIT and then CHOICE, so the first of like ones is the least number. */
    private int[][] nearest(int steps, int end) {
        int[][] best = null;
        for (int number = 0; number < 1 << 3 * steps; number++) {
            int[][] row = row(number, steps);
            int last = steps == 0 ? 0 : row[steps - 1][3];
            if ((end == NONE || end == last) && (best == null || costOf(row) < costOf(best))) {
                best = row;
            }
        }
        return best;
    }

    // ---- what is compared

    private void nearestRows() {
        for (int end = NONE; end < 1 << m; end++) {
            rows.end(end);
            int[][] best = nearest(places.length, end);
            due("told(8)", rows.told(8), best == null ? NEVER : costOf(best));
            StringBuilder text = new StringBuilder();
            for (int k = 0; k < places.length; k++) {
                for (int what = 0; what < 4; what++) {
                    due("nearest(" + k + ", " + what + ")", rows.nearest(k, what), best == null ? NONE : best[k][what]);
                }
                if (best != null) {
                    int before = k == 0 ? 0 : best[k - 1][3];
                    text.append((char) (65 + family(before, best[k][0]))).append(best[k][1]);
                }
            }
            due("told(12)", rows.told(12), text.length());
            for (int i = 0; i < text.length(); i++) {
                due("sign(" + i + ")", rows.sign(i), text.charAt(i));
            }
        }
    }

    private void costsOfStates() {
        for (int k = 0; k <= places.length; k++) {
            for (int state = 0; state < 1 << m; state++) {
                int[][] best = nearest(k, state);
                due("ahead(" + k + ", " + state + ")", rows.ahead(k, state), best == null ? NEVER : costOf(best));
            }
        }
    }

    private void decisions() {
        for (int steps = 1; steps <= places.length; steps++) {
            int[][] best = nearest(steps, NONE);
            for (int k = 0; k < steps; k++) {
                int t = steps - k - 1;
                due("decided(" + k + ", " + t + ")", rows.decided(k, t), best[k][2]);
            }
        }
    }

    private static int apart(int family, int other) {
        int least = NEVER;
        for (int v = 0; v < 4; v++) {
            for (int w = 0; w < 4; w++) {
                int p = member(family, v);
                int q = member(other, w);
                if (p != q) {
                    least = Math.min(least, distance(p, 20 * (q / 4) - 30, 20 * (q % 4) - 30));
                }
            }
        }
        return least;
    }

    private int gap(int a, int u, int b, int v) {
        return family(a, u) == family(b, v) ? 0 : apart(family(a, u), family(b, v));
    }

    /** The least sum with which rows now in states a and b come together, if that is below the bound; else the bound. */
    private int together(int a, int b, int sum, int steps, int bound) {
        if (sum >= bound || a == b) {
            return Math.min(sum, bound);
        }
        int least = bound;
        for (int bits = 0; steps < MOST_PARTED && bits < 4; bits++) {
            int u = bits / 2;
            int v = bits % 2;
            least = together(stateBehind(a, u), stateBehind(b, v), sum + gap(a, u, b, v), steps + 1, least);
        }
        return least;
    }

    private void free() {
        int least = apart(0, 0);
        for (int family = 1; family < 4; family++) {
            least = Math.min(least, apart(family, family));
        }
        for (int state = 0; state < 1 << m; state++) {
            least = together(stateBehind(state, 0), stateBehind(state, 1), gap(state, 0, state, 1), 1, least);
        }
        due("told(10)", rows.told(10), least);
    }

    private static int[][] placesByLots(Random random, int count) {
        int[][] places = new int[count][];
        for (int k = 0; k < count; k++) {
            boolean halfWay = random.nextInt(3) != 0;
            places[k] = halfWay
                ? new int[] {10 * random.nextInt(9) - 40, 10 * random.nextInt(9) - 40}
                : new int[] {random.nextInt(199) - 99, random.nextInt(199) - 99};
        }
        return places;
    }

    public static void main(String[] args) {
        Random random = new Random(24);
        for (int round = 0; round < 300; round++) {
            int m = 1 + round % 3;
            int most = (2 << m) - 1;
            int[][] places = placesByLots(random, round % (MOST_STEPS + 1));
            DefinitionTest test = new DefinitionTest(m, 1 + random.nextInt(most), 1 + random.nextInt(most), places);
            test.nearestRows();
            test.costsOfStates();
            test.decisions();
        }
        for (int m = 1; m <= 3; m++) {
            for (int g = 1; g < 2 << m; g++) {
                for (int h = 1; h < 2 << m; h++) {
                    new DefinitionTest(m, g, h, new int[0][]).free();
                }
            }
        }
        System.out.println(asked + " answers counted out, " + wrong + " are not as due");
        if (wrong != 0) {
            System.exit(1);
        }
    }
}
