/** Promise by promise: ordinary inputs, the edges that the document names, and wrong inputs. */
public final class PromisesTest {
    private static final int NONE = -1, NEVER = 99999999;
    private static final int UNKNOWN = -1000000001, OUTSIDE = -1000000002, NOT = -1000000003, FULL = -1000000004;
    private static final int LEAST = Integer.MIN_VALUE, MOST = Integer.MAX_VALUE;

    private static int wrong = 0;
    private static int promise = 0;

    private static void due(String call, int got, int want) {
        if (got != want) {
            wrong++;
            System.out.println("promise " + promise + ": " + call + " answered " + got + ", due is " + want);
        }
    }

    public static void main(String[] args) {
        promise = 1; newObject();
        promise = 2; code();
        promise = 3; send();
        promise = 4; hear();
        promise = 5; drift();
        promise = 6; wipe();
        promise = 7; end();
        promise = 8; undo();
        promise = 9; told();
        promise = 10; point();
        promise = 11; member();
        promise = 12; apart();
        promise = 13; distance();
        promise = 14; turned();
        promise = 15; next();
        promise = 16; sent();
        promise = 17; heard();
        promise = 18; nearest();
        promise = 19; ahead();
        promise = 20; decided();
        promise = 21; cost();
        promise = 22; sign();
        promise = 23; keep();
        promise = 24; goBack();
        System.out.println(wrong == 0 ? "all promises are kept" : wrong + " answers are not as due");
        if (wrong != 0) {
            System.exit(1);
        }
    }

    /** Sends and hears so that all of what told() shows is unlike a new object's. */
    private static GridRows busy() {
        GridRows x = new GridRows();
        x.code(1, 1, 2);
        x.send(1, 3);
        x.send(0, 1);
        x.hear(4, 5);
        x.hear(6, 7);
        x.hear(8, 9);
        x.end(1);
        return x;
    }

    private static void busyStill(String after, GridRows x) {
        int[] want = {1, 1, 2, 2, 2, 3, 0, 1};
        for (int what = 0; what < want.length; what++) {
            due(after + "told(" + what + ")", x.told(what), want[what]);
        }
        due(after + "sent(0, 1)", x.sent(0, 1), 3);
        due(after + "sent(1, 0)", x.sent(1, 0), 0);
        due(after + "heard(0, 0)", x.heard(0, 0), 4);
        due(after + "heard(2, 1)", x.heard(2, 1), 9);
    }

    private static void fresh(String after, GridRows x) {
        int[] want = {2, 5, 2, 4, 0, 0, 0, NONE, 0, 0, 1600, 0, 0};
        for (int what = 0; what < want.length; what++) {
            due(after + "told(" + what + ")", x.told(what), want[what]);
        }
    }

    private static void newObject() {
        GridRows x = new GridRows();
        fresh("", x);
        due("told(13)", x.told(13), 0);
        due("undo()", x.undo(), NOT);
        due("goBack(0)", x.goBack(0), NOT);
        due("goBack(1)", x.goBack(1), NOT);
        GridRows other = busy();
        fresh("beside another object: ", x);
        due("beside another object: told(5)", other.told(5), 3);
    }

    private static void code() {
        for (int m = 1; m <= 3; m++) {
            int most = (2 << m) - 1;
            GridRows x = busy();
            due("code(m, most, 1)", x.code(m, most, 1), 1 << m);
            due("M", x.told(0), m);
            due("G", x.told(1), most);
            due("H", x.told(2), 1);
            due("SENT", x.told(4), 0);
            due("HEARD", x.told(5), 0);
            due("END", x.told(7), NONE);
            due("code(m, 1, most)", x.code(m, 1, most), 1 << m);
            due("code(m, most + 1, 1)", x.code(m, most + 1, 1), OUTSIDE);
            due("code(m, 1, most + 1)", x.code(m, 1, most + 1), OUTSIDE);
            due("code(m, 0, 1)", x.code(m, 0, 1), OUTSIDE);
            due("code(m, 1, 0)", x.code(m, 1, 0), OUTSIDE);
            due("G stays", x.told(1), 1);
            due("H stays", x.told(2), most);
        }
        GridRows x = busy();
        int[] bad = {LEAST, -1, 0, 4, 31, 32, MOST};
        for (int m : bad) {
            due("code(" + m + ", 1, 1)", x.code(m, 1, 1), OUTSIDE);
        }
        due("code(3, -1, 1)", x.code(3, -1, 1), OUTSIDE);
        due("code(3, 1, LEAST)", x.code(3, 1, LEAST), OUTSIDE);
        busyStill("refused codes: ", x);
        due("refused codes: told(13)", x.told(13), 7);
    }

    private static void send() {
        GridRows x = new GridRows();
        int[][] runs = {{0, 3, 10, 0}, {1, 0, 4, 2}, {1, 1, 3, 3}, {0, 2, 9, 1}, {0, 3, 14, 0}};
        for (int k = 0; k < runs.length; k++) {
            due("send " + k, x.send(runs[k][0], runs[k][1]), runs[k][2]);
            due("state " + k, x.told(6), runs[k][3]);
        }
        int[] bad = {LEAST, -1, 2, 4, MOST};
        for (int u : bad) {
            due("send(" + u + ", 0)", x.send(u, 0), OUTSIDE);
        }
        int[] badChoices = {LEAST, -1, 4, MOST};
        for (int w : badChoices) {
            due("send(0, " + w + ")", x.send(0, w), OUTSIDE);
        }
        due("SENT", x.told(4), 5);
        for (int k = 5; k < 24; k++) {
            due("send(0, 0)", x.send(0, 0), 0);
        }
        due("the 25th", x.send(1, 1), FULL);
        due("OUTSIDE ahead of FULL", x.send(2, 1), OUTSIDE);
        due("SENT", x.told(4), 24);
        due("HEARD", x.told(5), 0);
        due("told(13)", x.told(13), 8);
    }

    private static void hear() {
        GridRows x = new GridRows();
        due("hear(-99, 99)", x.hear(-99, 99), 1);
        due("hear(99, -99)", x.hear(99, -99), 2);
        int[] bad = {LEAST, -100, 100, MOST};
        for (int place : bad) {
            due("hear(" + place + ", 0)", x.hear(place, 0), OUTSIDE);
            due("hear(0, " + place + ")", x.hear(0, place), OUTSIDE);
        }
        for (int k = 3; k <= 24; k++) {
            due("hear(k, -k)", x.hear(k, -k), k);
        }
        due("the 25th", x.hear(0, 0), FULL);
        due("OUTSIDE ahead of FULL", x.hear(0, 100), OUTSIDE);
        due("HEARD", x.told(5), 24);
        due("SENT", x.told(4), 0);
        due("heard(0, 0)", x.heard(0, 0), -99);
        due("heard(1, 1)", x.heard(1, 1), -99);
        due("heard(23, 0)", x.heard(23, 0), 24);
        due("heard(23, 1)", x.heard(23, 1), -24);
    }

    private static void drift() {
        GridRows x = new GridRows();
        // lots of seed 1: 16807, 282475249, 1622650073, 984943658; then 1144108930, 470211272, 101027544, 1457850878
        due("drift(2, 1)", x.drift(2, 1), 2);
        due("bit 0", x.sent(0, 0), 1);
        due("choice 0", x.sent(0, 1), 1);
        due("point 0", x.sent(0, 2), 6);
        due("x 0", x.heard(0, 0), -10 + 23 - 12);
        due("y 0", x.heard(0, 1), 10 + 8 - 12);
        due("bit 1", x.sent(1, 0), 0);
        due("choice 1", x.sent(1, 1), 0);
        due("point 1", x.sent(1, 2), 5);
        due("x 1", x.heard(1, 0), -10 + 19 - 12);
        due("y 1", x.heard(1, 1), -10 + 3 - 12);
        due("told(13)", x.told(13), 1);
        due("drift(24, 999999) with room for 22", x.drift(24, 999999), 22);
        due("drift(1, 1) without room", x.drift(1, 1), 0);
        due("told(13): not refused", x.told(13), 3);
        int[] badCounts = {LEAST, -1, 0, 25, MOST};
        for (int n : badCounts) {
            due("drift(" + n + ", 1)", x.drift(n, 1), OUTSIDE);
        }
        int[] badSeeds = {LEAST, -1, 0, 1000000, MOST};
        for (int seed : badSeeds) {
            due("drift(1, " + seed + ")", x.drift(1, seed), OUTSIDE);
        }
        due("told(13)", x.told(13), 3);

        x = new GridRows();
        for (int k = 0; k < 22; k++) {
            x.send(0, 0);
        }
        due("drift(5, 1) with room for 2 to send", x.drift(5, 1), 2);
        due("SENT", x.told(4), 24);
        due("HEARD", x.told(5), 2);
        due("heard is beside the point that was sent", x.heard(0, 0), 1);

        x = new GridRows();
        for (int k = 0; k < 23; k++) {
            x.hear(0, 0);
        }
        due("drift(5, 1) with room for 1 to hear", x.drift(5, 1), 1);
        due("SENT", x.told(4), 1);
        due("HEARD", x.told(5), 24);
    }

    private static void wipe() {
        GridRows x = busy();
        due("wipe()", x.wipe(), 5);
        due("SENT", x.told(4), 0);
        due("HEARD", x.told(5), 0);
        due("state", x.told(6), 0);
        due("END stays", x.told(7), 1);
        due("M stays", x.told(0), 1);
        due("wipe() again", x.wipe(), 0);
        due("sending begins anew", x.send(0, 0), 0);
        x = new GridRows();
        x.drift(24, 1);
        due("wipe() of all", x.wipe(), 48);
    }

    private static void end() {
        GridRows x = new GridRows();
        due("end(3)", x.end(3), NONE);
        due("end(0)", x.end(0), 3);
        due("end(0) again", x.end(0), 0);
        int[] bad = {LEAST, -2, 4, MOST, UNKNOWN, NEVER};
        for (int state : bad) {
            due("end(" + state + ")", x.end(state), UNKNOWN);
        }
        due("END", x.told(7), 0);
        due("told(13)", x.told(13), 3);
        due("end(NONE)", x.end(NONE), 0);
        due("END", x.told(7), NONE);
        x.code(1, 1, 1);
        due("end(2) of two states", x.end(2), UNKNOWN);
        due("end(1) of two states", x.end(1), NONE);
        x.code(3, 1, 1);
        due("end(8) of eight states", x.end(8), UNKNOWN);
        due("end(7) of eight states", x.end(7), NONE);
    }

    private static void undo() {
        GridRows x = busy();
        x.code(3, 9, 9);
        due("undo() of code()", x.undo(), 7);
        busyStill("undone code(): ", x);
        x.send(1, 1);
        due("undo() of send()", x.undo(), 7);
        busyStill("undone send(): ", x);
        x.hear(1, 1);
        due("undo() of hear()", x.undo(), 7);
        busyStill("undone hear(): ", x);
        x.drift(24, 77);
        due("undo() of drift()", x.undo(), 7);
        busyStill("undone drift(): ", x);
        x.wipe();
        due("undo() of wipe()", x.undo(), 7);
        busyStill("undone wipe(): ", x);
        x.end(0);
        due("undo() of end()", x.undo(), 7);
        busyStill("undone end(): ", x);
        for (int left = 6; left >= 0; left--) {
            due("undo() all", x.undo(), left);
        }
        fresh("all undone: ", x);
        due("undo() of nothing", x.undo(), NOT);

        x = new GridRows();
        for (int k = 1; k <= 11; k++) {
            x.hear(k, 0);
        }
        due("told(13)", x.told(13), 8);
        for (int left = 7; left >= 0; left--) {
            due("undo() of eight", x.undo(), left);
            due("HEARD", x.told(5), 3 + left);
        }
        due("the oldest are lost", x.undo(), NOT);
        due("heard(2, 0)", x.heard(2, 0), 3);
        x.hear(50, 50);
        x.hear(100, 0);
        due("a refused call is not kept", x.told(13), 1);
        due("undo()", x.undo(), 0);
        due("HEARD", x.told(5), 3);
    }

    private static void told() {
        GridRows x = busy();
        busyStill("", x);
        due("told(13)", x.told(13), 7);
        int[] bad = {LEAST, -1, 14, MOST};
        for (int what : bad) {
            due("told(" + what + ")", x.told(what), OUTSIDE);
        }

        // COST of the NEAREST ROW, and unlike steps: heard is just what bits 0 and choice 0 would send
        x = new GridRows();
        x.hear(-30, -30);
        x.hear(-30, -30);
        due("COST 0", x.told(8), 0);
        due("nothing SENT is unlike", x.told(9), 0);
        x.send(0, 1);
        due("one of one unlike", x.told(9), 1);
        x.send(0, 0);
        x.send(0, 3);
        due("the third was not heard", x.told(9), 1);
        x.end(1);
        // to STATE 1 by bits 1, 0: points nearest to -30, -30 of families 2 and 1
        due("COST by END", x.told(8), 400 + 800);
        due("unlike by END", x.told(9), 2);
        x.wipe();
        due("no ROW", x.told(8), NEVER);
        due("no ROW, none unlike", x.told(9), 0);
        due("no ROW, no signs", x.told(12), 0);

        // FREE
        int[][] free = {{1, 1, 2, 1200}, {1, 3, 3, 800}, {1, 1, 1, 400}, {2, 5, 2, 1600}, {2, 7, 5, 1200}, {3, 8, 8, 400},
            {3, 15, 13, 1600}, {2, 4, 1, 1200}};
        for (int[] f : free) {
            x.code(f[0], f[1], f[2]);
            due("FREE of " + f[0] + ", " + f[1] + ", " + f[2], x.told(10), f[3]);
        }

        // TURNS ALIKE: no code within the bounds does
        for (int m = 1; m <= 3; m++) {
            for (int g = 1; g < 2 << m; g++) {
                for (int h = 1; h < 2 << m; h++) {
                    x.code(m, g, h);
                    due("TURNS ALIKE", x.told(11), 0);
                }
            }
        }

        // signs WRITTEN
        x = new GridRows();
        int[] signs = {0, 2, 4, 6, 8, 11, 13, 15, 17, 20};
        for (int k = 0; k < signs.length; k++) {
            due("signs of " + k + " steps", x.told(12), signs[k]);
            x.hear(k, k);
        }
    }

    private static void point() {
        GridRows x = new GridRows();
        int[] families = {0, 3, 0, 3, 2, 1, 2, 1, 0, 3, 0, 3, 2, 1, 2, 1};
        int[] ranks = {0, 0, 1, 1, 0, 0, 1, 1, 2, 2, 3, 3, 2, 2, 3, 3};
        int[] turns = {12, 8, 4, 0, 13, 9, 5, 1, 14, 10, 6, 2, 15, 11, 7, 3};
        int[] axis = {-30, -10, 10, 30};
        for (int p = 0; p < 16; p++) {
            due("X of " + p, x.point(p, 0), axis[p / 4]);
            due("Y of " + p, x.point(p, 1), axis[p % 4]);
            due("FAMILY of " + p, x.point(p, 2), families[p]);
            due("rank of " + p, x.point(p, 3), ranks[p]);
            due("turn of " + p, x.point(p, 4), turns[p]);
        }
        int[] bad = {LEAST, -1, 16, MOST};
        for (int p : bad) {
            due("point(" + p + ", 0)", x.point(p, 0), UNKNOWN);
            due("UNKNOWN ahead of OUTSIDE", x.point(p, 5), UNKNOWN);
        }
        int[] badWhat = {LEAST, -1, 5, MOST};
        for (int what : badWhat) {
            due("point(15, " + what + ")", x.point(15, what), OUTSIDE);
        }
    }

    private static void member() {
        GridRows x = new GridRows();
        int[][] members = {{0, 2, 8, 10}, {5, 7, 13, 15}, {4, 6, 12, 14}, {1, 3, 9, 11}};
        for (int family = 0; family < 4; family++) {
            for (int w = 0; w < 4; w++) {
                due("member(" + family + ", " + w + ")", x.member(family, w), members[family][w]);
            }
        }
        int[] bad = {LEAST, -1, 4, MOST};
        for (int n : bad) {
            due("member(" + n + ", 0)", x.member(n, 0), UNKNOWN);
            due("member(0, " + n + ")", x.member(0, n), OUTSIDE);
            due("UNKNOWN ahead of OUTSIDE", x.member(n, n), UNKNOWN);
        }
    }

    private static void apart() {
        GridRows x = new GridRows();
        int[][] apart = {{1600, 800, 400, 400}, {800, 1600, 400, 400}, {400, 400, 1600, 800}, {400, 400, 800, 1600}};
        for (int f = 0; f < 4; f++) {
            for (int g = 0; g < 4; g++) {
                due("apart(" + f + ", " + g + ")", x.apart(f, g), apart[f][g]);
            }
        }
        int[] bad = {LEAST, -1, 4, MOST};
        for (int n : bad) {
            due("apart(" + n + ", 0)", x.apart(n, 0), UNKNOWN);
            due("apart(3, " + n + ")", x.apart(3, n), UNKNOWN);
        }
    }

    private static void distance() {
        GridRows x = new GridRows();
        for (int p = 0; p < 16; p++) {
            for (int q = 0; q < 16; q++) {
                int di = p / 4 - q / 4;
                int dj = p % 4 - q % 4;
                due("distance(" + p + ", " + q + ")", x.distance(p, q), p == q ? UNKNOWN : 400 * (di * di + dj * dj));
            }
        }
        int[] bad = {LEAST, -1, 16, MOST};
        for (int n : bad) {
            due("distance(" + n + ", 0)", x.distance(n, 0), UNKNOWN);
            due("distance(15, " + n + ")", x.distance(15, n), UNKNOWN);
            due("distance of one twice that is none", x.distance(n, n), UNKNOWN);
        }
    }

    private static void turned() {
        GridRows x = new GridRows();
        int[] turned = {2, 3, 1, 0};
        for (int family = 0; family < 4; family++) {
            due("turned(" + family + ")", x.turned(family), turned[family]);
        }
        int[] bad = {LEAST, -1, 4, MOST};
        for (int n : bad) {
            due("turned(" + n + ")", x.turned(n), UNKNOWN);
        }
    }

    private static void next() {
        GridRows x = new GridRows();
        int[][] families = {{0, 2}, {2, 0}, {1, 3}, {3, 1}};
        int[][] states = {{0, 2}, {0, 2}, {1, 3}, {1, 3}};
        for (int s = 0; s < 4; s++) {
            for (int u = 0; u < 2; u++) {
                due("family of " + s + ", " + u, x.next(s, u, 0), families[s][u]);
                due("state of " + s + ", " + u, x.next(s, u, 1), states[s][u]);
            }
        }
        int[] bad = {LEAST, -1, 4, MOST};
        for (int n : bad) {
            due("next(" + n + ", 0, 0)", x.next(n, 0, 0), UNKNOWN);
            due("UNKNOWN ahead of OUTSIDE", x.next(n, 2, 2), UNKNOWN);
        }
        int[] badBits = {LEAST, -1, 2, MOST};
        for (int n : badBits) {
            due("next(3, " + n + ", 0)", x.next(3, n, 0), OUTSIDE);
            due("next(3, 0, " + n + ")", x.next(3, 0, n), OUTSIDE);
        }
        x.code(3, 15, 8);
        due("family by rules 15, 8", x.next(5, 1, 0), 3);
        due("family by rules 15, 8", x.next(7, 0, 0), 2);
        due("state of eight", x.next(5, 1, 1), 6);
        due("next(8, 0, 0)", x.next(8, 0, 0), UNKNOWN);
        x.code(1, 3, 1);
        due("family by rules 3, 1", x.next(1, 1, 0), 1);
        due("next(2, 0, 0)", x.next(2, 0, 0), UNKNOWN);
    }

    private static void sent() {
        GridRows x = new GridRows();
        x.send(1, 2);
        x.send(1, 0);
        x.send(0, 3);
        int[][] steps = {{1, 2, 12, 2}, {1, 0, 1, 3}, {0, 3, 11, 1}};
        for (int k = 0; k < 3; k++) {
            for (int what = 0; what < 4; what++) {
                due("sent(" + k + ", " + what + ")", x.sent(k, what), steps[k][what]);
            }
        }
        x.hear(0, 0);
        x.hear(0, 0);
        x.hear(0, 0);
        x.hear(0, 0);
        int[] bad = {LEAST, -1, 3, 24, MOST};
        for (int k : bad) {
            due("sent(" + k + ", 0)", x.sent(k, 0), UNKNOWN);
            due("UNKNOWN ahead of OUTSIDE", x.sent(k, 4), UNKNOWN);
        }
        int[] badWhat = {LEAST, -1, 4, MOST};
        for (int what : badWhat) {
            due("sent(2, " + what + ")", x.sent(2, what), OUTSIDE);
        }
    }

    private static void heard() {
        GridRows x = new GridRows();
        int[][] places = {{0, 0, 5}, {-99, -99, 0}, {99, 99, 15}, {20, -20, 8}, {21, -19, 13}, {-21, 40, 3}, {0, 1, 6}};
        for (int[] place : places) {
            x.hear(place[0], place[1]);
        }
        for (int k = 0; k < places.length; k++) {
            for (int what = 0; what < 3; what++) {
                due("heard(" + k + ", " + what + ")", x.heard(k, what), places[k][what]);
            }
        }
        for (int k = 0; k < 9; k++) {
            x.send(0, 0);
        }
        int[] bad = {LEAST, -1, 7, 24, MOST};
        for (int k : bad) {
            due("heard(" + k + ", 0)", x.heard(k, 0), UNKNOWN);
            due("UNKNOWN ahead of OUTSIDE", x.heard(k, 3), UNKNOWN);
        }
        int[] badWhat = {LEAST, -1, 3, MOST};
        for (int what : badWhat) {
            due("heard(6, " + what + ")", x.heard(6, what), OUTSIDE);
        }
    }

    private static void nearest() {
        GridRows x = new GridRows();
        x.hear(-10, -30);
        x.hear(-10, -10);
        x.hear(-30, -30);
        // bits 1, 0, 1: points 4, 5 and 0 were heard just so
        int[][] steps = {{1, 0, 4, 2}, {0, 0, 5, 1}, {1, 0, 0, 2}};
        for (int k = 0; k < 3; k++) {
            for (int what = 0; what < 4; what++) {
                due("nearest(" + k + ", " + what + ")", x.nearest(k, what), steps[k][what]);
            }
        }
        int[] bad = {LEAST, -1, 3, 24, MOST};
        for (int k : bad) {
            due("nearest(" + k + ", 0)", x.nearest(k, 0), UNKNOWN);
            due("UNKNOWN ahead of OUTSIDE", x.nearest(k, 4), UNKNOWN);
        }
        int[] badWhat = {LEAST, -1, 4, MOST};
        for (int what : badWhat) {
            due("nearest(2, " + what + ")", x.nearest(2, what), OUTSIDE);
        }
        x.end(0);
        due("by END", x.nearest(2, 3), 0);

        // like ones: the lesser bit, then the lesser choice, from the first step on
        x = new GridRows();
        x.hear(-20, -30);
        due("lesser bit", x.nearest(0, 0), 0);
        due("its point", x.nearest(0, 2), 0);
        x.end(2);
        due("by END the other", x.nearest(0, 2), 4);
        x.end(1);
        for (int what = 0; what < 4; what++) {
            due("no ROW", x.nearest(0, what), NONE);
        }
        due("OUTSIDE ahead of no ROW", x.nearest(0, 4), OUTSIDE);
        x = new GridRows();
        x.hear(-10, -10);
        x.end(0);
        due("lesser choice", x.nearest(0, 1), 0);
        x = new GridRows();
        x.code(3, 8, 8);
        x.hear(-20, -20);
        x.hear(-20, -20);
        due("bit 0 of like rows", x.nearest(0, 0), 0);
        due("bit 1 of like rows", x.nearest(1, 0), 0);
        due("state of like rows", x.nearest(1, 3), 0);
    }

    private static void ahead() {
        GridRows x = new GridRows();
        int[] none = {0, NEVER, NEVER, NEVER};
        for (int s = 0; s < 4; s++) {
            due("ahead(0, " + s + ")", x.ahead(0, s), none[s]);
        }
        x.hear(-30, -30);
        x.hear(-30, -30);
        int[] one = {0, NEVER, 400, NEVER};
        int[] two = {0, 1200, 400, 800};
        for (int end = -1; end < 4; end++) {
            x.end(end);
            for (int s = 0; s < 4; s++) {
                due("ahead(0, " + s + ")", x.ahead(0, s), none[s]);
                due("ahead(1, " + s + ")", x.ahead(1, s), one[s]);
                due("ahead(2, " + s + ")", x.ahead(2, s), two[s]);
            }
        }
        int[] badStates = {LEAST, -1, 4, MOST};
        for (int s : badStates) {
            due("ahead(0, " + s + ")", x.ahead(0, s), UNKNOWN);
            due("UNKNOWN ahead of OUTSIDE", x.ahead(3, s), UNKNOWN);
        }
        int[] badSteps = {LEAST, -1, 3, 25, MOST};
        for (int k : badSteps) {
            due("ahead(" + k + ", 0)", x.ahead(k, 0), OUTSIDE);
        }
        x.code(3, 1, 1);
        due("ahead(0, 7)", x.ahead(0, 7), NEVER);
        due("ahead(0, 8)", x.ahead(0, 8), UNKNOWN);
        for (int k = 0; k < 24; k++) {
            x.hear(-99, -99);
        }
        due("ahead(24, 0), far away", x.ahead(24, 0), 24 * (69 * 69 + 69 * 69));
    }

    private static void decided() {
        GridRows x = new GridRows();
        x.hear(-10, 30);
        x.hear(10, 10);
        x.hear(-30, -30);
        int[][] points = {{6, 2, 2}, {10, 10}, {0}};
        for (int end = -1; end < 4; end++) {
            x.end(end);
            for (int k = 0; k < 3; k++) {
                for (int t = 0; t < 24; t++) {
                    due("decided(" + k + ", " + t + ")", x.decided(k, t), k + t < 3 ? points[k][t] : NONE);
                }
            }
        }
        int[] bad = {LEAST, -1, 3, 24, MOST};
        for (int k : bad) {
            due("decided(" + k + ", 0)", x.decided(k, 0), UNKNOWN);
            due("UNKNOWN ahead of OUTSIDE", x.decided(k, 24), UNKNOWN);
        }
        int[] badPatience = {LEAST, -1, 24, MOST};
        for (int t : badPatience) {
            due("decided(0, " + t + ")", x.decided(0, t), OUTSIDE);
        }
    }

    private static void cost() {
        GridRows x = new GridRows();
        due("cost()", x.cost(), 0);
        x.send(0, 0);
        due("nothing heard", x.cost(), 0);
        x.hear(-27, -34);
        due("one of both", x.cost(), 9 + 16);
        x.hear(99, 99);
        due("one sent, two heard", x.cost(), 25);
        x.send(0, 0);
        due("two of both", x.cost(), 25 + 129 * 129 * 2);
        x.send(1, 0);
        due("three sent, two heard", x.cost(), 25 + 129 * 129 * 2);
        x.end(3);
        due("whatever END is", x.cost(), 25 + 129 * 129 * 2);
    }

    private static void sign() {
        GridRows x = new GridRows();
        due("sign(0) of nothing", x.sign(0), NONE);
        int[][] places = {{-10, -30}, {-10, -10}, {-30, -30}, {30, 30}, {10, 10}};
        String[] texts = {"C0", "C0B0", "C0B0A0", "C0B0A0B3", "C0B0A0B3-A3"};
        for (int k = 0; k < places.length; k++) {
            x.hear(places[k][0], places[k][1]);
            due("signs", x.told(12), texts[k].length());
            for (int i = 0; i < texts[k].length(); i++) {
                due(texts[k] + ": sign(" + i + ")", x.sign(i), texts[k].charAt(i));
            }
            due("behind the last", x.sign(texts[k].length()), NONE);
        }
        due("far behind", x.sign(MOST), NONE);
        due("sign(-1)", x.sign(-1), OUTSIDE);
        due("sign(LEAST)", x.sign(LEAST), OUTSIDE);

        x = new GridRows();
        x.drift(8, 5);
        due("no '-' at the end", x.sign(17), NONE);
        due("a '-' within", x.sign(8), '-');
        for (int k = 0; k < 8; k++) {
            int at = 2 * k + k / 4;
            due("letter of step " + k, x.sign(at), 'A' + x.point(x.nearest(k, 2), 2));
            due("figure of step " + k, x.sign(at + 1), '0' + x.nearest(k, 1));
        }
        x.wipe();
        x.hear(0, 0);
        x.end(1);
        due("no ROW: sign(0)", x.sign(0), NONE);
        due("no ROW: sign(-1)", x.sign(-1), OUTSIDE);
    }

    private static void keep() {
        GridRows x = busy();
        due("keep(0)", x.keep(0), 3);
        due("nothing can be undone", x.told(13), 0);
        due("undo()", x.undo(), NOT);
        busyStill("kept: ", x);
        x.send(0, 0);
        int[] bad = {LEAST, -1, 2, MOST};
        for (int i : bad) {
            due("keep(" + i + ")", x.keep(i), UNKNOWN);
        }
        due("a refused keep() leaves what can be undone", x.told(13), 1);
        x.wipe();
        due("keep(1)", x.keep(1), 0);
        due("goBack(0)", x.goBack(0), 3);
        busyStill("gone back: ", x);
        x.hear(1, 1);
        due("keep(0) anew", x.keep(0), 4);
        due("goBack(1)", x.goBack(1), 0);
        due("goBack(0) anew", x.goBack(0), 4);
    }

    private static void goBack() {
        GridRows x = busy();
        due("goBack(0)", x.goBack(0), NOT);
        x.keep(1);
        due("goBack(0), the other kept", x.goBack(0), NOT);
        x.code(3, 7, 9);
        x.drift(24, 3);
        x.end(5);
        int[] bad = {LEAST, -1, 2, MOST};
        for (int i : bad) {
            due("goBack(" + i + ")", x.goBack(i), UNKNOWN);
        }
        due("refused: what can be undone stays", x.told(13), 3);
        due("refused: HEARD stays", x.told(5), 24);
        due("goBack(1)", x.goBack(1), 3);
        busyStill("gone back: ", x);
        due("nothing can be undone", x.told(13), 0);
        due("undo()", x.undo(), NOT);
        x.send(1, 1);
        x.hear(50, 50);
        x.end(0);
        due("goBack(1) once more", x.goBack(1), 3);
        busyStill("gone back once more: ", x);
        x.code(2, 1, 1);
        due("undo() of code() behind goBack()", x.undo(), 0);
        busyStill("undone behind goBack(): ", x);
    }
}
