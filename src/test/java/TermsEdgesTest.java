import java.util.function.Supplier;

/** The sentences of 'Terms' that name a boundary case, each with a test of its own. */
public final class TermsEdgesTest {
    private static final int NONE = Edges.NONE, NEVER = Edges.NEVER;
    private static final int UNKNOWN = Edges.UNKNOWN, OUTSIDE = Edges.OUTSIDE, NOT = Edges.NOT, FULL = Edges.FULL;

    private TermsEdgesTest() {
    }

    private static void due(String call, int got, int want) {
        Edges.due(call, got, want);
    }

    public static void main(String[] args) {
        Edges.sentence("What has a number has it from 0 on", TermsEdgesTest::numbersFromNought);
        Edges.sentence("NONE is -1. NEVER is 99999999. -1000000001 and on", TermsEdgesTest::constants);
        Edges.sentence("REFUSALS, of several the first: UNKNOWN, OUTSIDE", TermsEdgesTest::unknownAheadOfOutside);
        Edges.sentence("REFUSALS, of several the first: UNKNOWN, NOT", TermsEdgesTest::unknownAheadOfNot);
        Edges.sentence("REFUSALS, of several the first: OUTSIDE, FULL", TermsEdgesTest::outsideAheadOfFull);
        Edges.sentence("UNKNOWN: one twice, where two are asked", TermsEdgesTest::oneTwice);
        Edges.sentence("What is refused changes nothing (and is not what is undone)", TermsEdgesTest::refusedIsNotUndone);
        grid();
        code();
        sentAndHeard();
        rows();
        aheadAndDecided();
        parting();
        turning();
        written();
        lots();
        undone();
        images();
        Edges.sentence("at most 512 calls after it has been made", TermsEdgesTest::allCallsOfOneObject);
        Edges.endOfTests();
    }

    private static void numbersFromNought() {
        GridRows x = Edges.busy();
        due("point(0, 2)", x.point(0, 2), 0);
        due("point(-1, 2)", x.point(-1, 2), UNKNOWN);
        due("member(0, 0)", x.member(0, 0), 0);
        due("member(-1, 0)", x.member(-1, 0), UNKNOWN);
        due("next(0, 0, 1)", x.next(0, 0, 1), 0);
        due("next(-1, 0, 1)", x.next(-1, 0, 1), UNKNOWN);
        due("sent(0, 1)", x.sent(0, 1), 3);
        due("sent(-1, 1)", x.sent(-1, 1), UNKNOWN);
        due("heard(0, 0)", x.heard(0, 0), 4);
        due("heard(-1, 0)", x.heard(-1, 0), UNKNOWN);
        due("keep(0)", x.keep(0), 3);
        due("keep(-1)", x.keep(-1), UNKNOWN);
    }

    private static void constants() {
        due("NONE", GridRows.NONE, -1);
        due("NEVER", GridRows.NEVER, 99999999);
        due("UNKNOWN", GridRows.UNKNOWN, -1000000001);
        due("OUTSIDE", GridRows.OUTSIDE, -1000000002);
        due("NOT", GridRows.NOT, -1000000003);
        due("FULL", GridRows.FULL, -1000000004);
    }

    private static void unknownAheadOfOutside() {
        Supplier<GridRows> maker = Edges::busy;
        Edges.refused("point(16, 5)", UNKNOWN, maker, x -> x.point(16, 5));
        Edges.refused("member(4, 4)", UNKNOWN, maker, x -> x.member(4, 4));
        Edges.refused("next(2, 2, 0)", UNKNOWN, maker, x -> x.next(2, 2, 0));
        Edges.refused("next(2, 0, 2)", UNKNOWN, maker, x -> x.next(2, 0, 2));
        Edges.refused("sent(2, 4)", UNKNOWN, maker, x -> x.sent(2, 4));
        Edges.refused("heard(3, 3)", UNKNOWN, maker, x -> x.heard(3, 3));
        Edges.refused("nearest(3, 4)", UNKNOWN, maker, x -> x.nearest(3, 4));
        Edges.refused("ahead(4, 2)", UNKNOWN, maker, x -> x.ahead(4, 2));
        Edges.refused("ahead(-1, -1)", UNKNOWN, maker, x -> x.ahead(-1, -1));
        Edges.refused("decided(3, 24)", UNKNOWN, maker, x -> x.decided(3, 24));
    }

    private static void unknownAheadOfNot() {
        Edges.refused("goBack(2), nothing kept", UNKNOWN, GridRows::new, x -> x.goBack(2));
        Edges.refused("goBack(-1), nothing kept", UNKNOWN, GridRows::new, x -> x.goBack(-1));
    }

    private static void outsideAheadOfFull() {
        Edges.refused("send(2, 0)", OUTSIDE, Edges::full, x -> x.send(2, 0));
        Edges.refused("send(0, 4)", OUTSIDE, Edges::full, x -> x.send(0, 4));
        Edges.refused("hear(100, 0)", OUTSIDE, Edges::full, x -> x.hear(100, 0));
        Edges.refused("hear(0, -100)", OUTSIDE, Edges::full, x -> x.hear(0, -100));
    }

    private static void oneTwice() {
        for (int p = 0; p < 16; p++) {
            int twice = p;
            Edges.refused("distance(" + p + ", " + p + ")", UNKNOWN, Edges::busy, x -> x.distance(twice, twice));
        }
        due("apart(3, 3) may be asked", Edges.busy().apart(3, 3), 1600);
    }

    private static void refusedIsNotUndone() {
        GridRows x = new GridRows();
        x.hear(1, 1);
        x.hear(2, 2);
        x.code(4, 1, 1);
        x.send(2, 0);
        x.hear(100, 0);
        x.drift(0, 1);
        x.end(4);
        due("told(13)", x.told(13), 2);
        due("undo()", x.undo(), 1);
        due("told(5): the second hear() is undone", x.told(5), 1);
    }

    // ---- points, families, distances

    private static void grid() {
        Edges.sentence("POINTS 0 .. 15", () -> {
            Edges.bounds("point(n, 0)", 0, 15, UNKNOWN, Edges::busy, (x, n) -> x.point(n, 0));
            Edges.bounds("distance(n, 7)", 0, 15, UNKNOWN, Edges::busy, (x, n) -> x.distance(n, 7));
            Edges.bounds("distance(7, n)", 0, 15, UNKNOWN, Edges::busy, (x, n) -> x.distance(7, n));
        });
        Edges.sentence("POINT 4 i and j (i, j 0 .. 3) lies at X = 20 i less 30, Y = 20 j less 30", () -> {
            GridRows x = new GridRows();
            int[][] corners = {{0, -30, -30}, {3, -30, 30}, {12, 30, -30}, {15, 30, 30}};
            for (int[] corner : corners) {
                due("X of " + corner[0], x.point(corner[0], 0), corner[1]);
                due("Y of " + corner[0], x.point(corner[0], 1), corner[2]);
            }
        });
        Edges.sentence("Its FAMILY: 0 .. 3", () -> {
            Edges.bounds("member(n, 0)", 0, 3, UNKNOWN, Edges::busy, (x, n) -> x.member(n, 0));
            Edges.bounds("turned(n)", 0, 3, UNKNOWN, Edges::busy, (x, n) -> x.turned(n));
            Edges.bounds("apart(n, 1)", 0, 3, UNKNOWN, Edges::busy, (x, n) -> x.apart(n, 1));
            Edges.bounds("apart(1, n)", 0, 3, UNKNOWN, Edges::busy, (x, n) -> x.apart(1, n));
        });
        Edges.sentence("a FAMILY has four POINTS; its k-th: rising by number", TermsEdgesTest::fourPointsRising);
        Edges.sentence("DISTANCE of two places: the least and the greatest of two POINTS", () -> {
            GridRows x = new GridRows();
            due("distance(0, 1)", x.distance(0, 1), 400);
            due("distance(1, 0)", x.distance(1, 0), 400);
            due("distance(0, 15)", x.distance(0, 15), 7200);
            due("distance(12, 3)", x.distance(12, 3), 7200);
        });
    }

    private static void fourPointsRising() {
        GridRows x = new GridRows();
        for (int family = 0; family < 4; family++) {
            int before = -1;
            for (int w = 0; w < 4; w++) {
                int p = x.member(family, w);
                due("member(" + family + ", " + w + ") rises", p > before ? 1 : 0, 1);
                due("its FAMILY", x.point(p, 2), family);
                due("the how manieth it is", x.point(p, 3), w);
                before = p;
            }
            due("a fifth", x.member(family, 4), OUTSIDE);
        }
    }

    // ---- the code

    private static void code() {
        Edges.sentence("MEMORY M (1 .. 3)", () ->
            Edges.bounds("code(n, 1, 1)", 1, 3, OUTSIDE, Edges::busy, (x, n) -> x.code(n, 1, 1)));
        Edges.sentence("MEMORY M (2 at first)", () -> due("told(0)", new GridRows().told(0), 2));
        Edges.sentence("two RULES G, H (1 to 2 to the (M and 1), less 1)", () -> {
            for (int memory = 1; memory <= 3; memory++) {
                int m = memory;
                int most = (2 << m) - 1;
                Edges.bounds("code(" + m + ", n, 1)", 1, most, OUTSIDE, Edges::busy, (x, n) -> x.code(m, n, 1));
                Edges.bounds("code(" + m + ", 1, n)", 1, most, OUTSIDE, Edges::busy, (x, n) -> x.code(m, 1, n));
            }
        });
        Edges.sentence("two RULES G, H (bounds by the M that is told, not by the one before)", () -> {
            due("code(3, 15, 15) behind M 1", Edges.coded(1, 1, 1).code(3, 15, 15), 8);
            Edges.refused("code(1, 4, 1) behind M 3", OUTSIDE, () -> Edges.coded(3, 15, 15), x -> x.code(1, 4, 1));
            Edges.refused("code(1, 1, 4) behind M 3", OUTSIDE, () -> Edges.coded(3, 15, 15), x -> x.code(1, 1, 4));
        });
        Edges.sentence("two RULES G, H (5 and 2 at first)", () -> {
            due("told(1)", new GridRows().told(1), 5);
            due("told(2)", new GridRows().told(2), 2);
        });
        Edges.sentence("STATES 0 .. 2 to the M, less 1", () -> {
            for (int memory = 1; memory <= 3; memory++) {
                int m = memory;
                int most = (1 << m) - 1;
                Supplier<GridRows> maker = () -> Edges.coded(m, 1, 3);
                Edges.bounds("next(n, 0, 0) with M " + m, 0, most, UNKNOWN, maker, (x, n) -> x.next(n, 0, 0));
                Edges.bounds("ahead(0, n) with M " + m, 0, most, UNKNOWN, maker, (x, n) -> x.ahead(0, n));
            }
        });
        Edges.sentence("A STEP takes a BIT u (0, 1)", () -> {
            Edges.bounds("send(n, 0)", 0, 1, OUTSIDE, Edges::busy, (x, n) -> x.send(n, 0));
            Edges.bounds("next(1, n, 0)", 0, 1, OUTSIDE, Edges::busy, (x, n) -> x.next(1, n, 0));
        });
        Edges.sentence("and a CHOICE w (0 .. 3)", () -> {
            Edges.bounds("send(0, n)", 0, 3, OUTSIDE, Edges::busy, (x, n) -> x.send(0, n));
            Edges.bounds("member(0, n)", 0, 3, OUTSIDE, Edges::busy, (x, n) -> x.member(0, n));
        });
        Edges.sentence("R is u times 2 to the M, and the STATE (the least and the greatest)", () -> {
            for (int m = 1; m <= 3; m++) {
                GridRows x = Edges.coded(m, (2 << m) - 1, 1);
                int ones = m + 1;
                due("family of R = 0, M " + m, x.next(0, 0, 0), 0);
                due("family of the greatest R, M " + m, x.next((1 << m) - 1, 1, 0), 2 * (ones % 2) + 1);
                due("family of u alone, M " + m, x.next(0, 1, 0), 2);
            }
        });
        Edges.sentence("the STATE becomes R / 2 (cut)", () -> {
            for (int m = 1; m <= 3; m++) {
                GridRows x = Edges.coded(m, 1, 1);
                int last = (1 << m) - 1;
                due("1 by 0, cut", x.next(1, 0, 1), 0);
                due("the last by 1 stays the last", x.next(last, 1, 1), last);
                due("the last by 0", x.next(last, 0, 1), last / 2);
                due("0 by 1", x.next(0, 1, 1), (last + 1) / 2);
            }
        });
    }

    // ---- what is sent and heard

    private static void sentAndHeard() {
        Edges.sentence("SENT: STEPS from STATE 0 on", () -> {
            GridRows x = Edges.coded(2, 1, 1);
            due("STATE of nothing SENT", x.told(6), 0);
            x.send(1, 0);
            x.send(1, 0);
            due("STATE behind two", x.told(6), 3);
            x.wipe();
            due("STATE of nothing SENT any more", x.told(6), 0);
            due("the first is SENT from STATE 0 again", x.send(0, 0), 0);
        });
        Edges.sentence("SENT (24 at most)", () -> {
            GridRows x = Edges.sending(23);
            due("the 24th send(0, 1) is SENT", x.send(0, 1) >= 0 ? 1 : 0, 1);
            due("told(4)", x.told(4), 24);
            Edges.refused("the 25th send(0, 1)", FULL, () -> Edges.sending(24), y -> y.send(0, 1));
        });
        Edges.sentence("HEARD: places X (-99 .. 99)", () ->
            Edges.bounds("hear(n, 0)", -99, 99, OUTSIDE, Edges::busy, (x, n) -> x.hear(n, 0)));
        Edges.sentence("HEARD: places Y (-99 .. 99)", () ->
            Edges.bounds("hear(0, n)", -99, 99, OUTSIDE, Edges::busy, (x, n) -> x.hear(0, n)));
        Edges.sentence("HEARD (24 at most)", () -> {
            due("the 24th hear(5, 6)", Edges.hearing(23).hear(5, 6), 24);
            Edges.refused("the 25th hear(5, 6)", FULL, () -> Edges.hearing(24), x -> x.hear(5, 6));
        });
        Edges.sentence("HEARD may be more than were SENT", () -> {
            GridRows x = Edges.hearing(24);
            due("told(4)", x.told(4), 0);
            due("told(5)", x.told(5), 24);
            due("one is SENT all the same", x.send(0, 0), 0);
        });
        Edges.sentence("HEARD may be fewer than were SENT", () -> {
            GridRows x = Edges.sending(24);
            due("told(4)", x.told(4), 24);
            due("told(5)", x.told(5), 0);
            due("one is HEARD all the same", x.hear(0, 0), 1);
        });
    }

    // ---- rows

    private static void rows() {
        Edges.sentence("A ROW has as many STEPS as were HEARD (nothing HEARD)", () -> {
            GridRows x = Edges.sending(24);
            due("COST of a ROW without STEPS", x.told(8), 0);
            due("no STEP of it", x.nearest(0, 0), UNKNOWN);
            due("none is unlike", x.told(9), 0);
        });
        Edges.sentence("A ROW has as many STEPS as were HEARD (all that can be)", () -> {
            GridRows x = Edges.hearing(24);
            due("nearest(23, 0) is a BIT", x.nearest(23, 0) >> 1, 0);
            due("nearest(24, 0)", x.nearest(24, 0), UNKNOWN);
        });
        Edges.sentence("COST: DISTANCES together (the greatest)", () -> {
            GridRows x = new GridRows();
            for (int k = 0; k < 24; k++) {
                x.hear(99, 99);
                x.send(0, 0);
            }
            due("cost()", x.cost(), 24 * 2 * 129 * 129);
        });
        Edges.sentence("NEAREST: of like ones the lesser BIT, then CHOICE", () -> {
            GridRows x = new GridRows();
            // POINT 10 is CHOICE 3 by BIT 0 and POINT 6 is CHOICE 1 by BIT 1; both are 100 away
            x.hear(0, 10);
            due("BIT", x.nearest(0, 0), 0);
            due("CHOICE", x.nearest(0, 1), 3);
            due("POINT", x.nearest(0, 2), 10);
        });
        Edges.sentence("NEAREST: of like ones with one BIT the lesser CHOICE", () -> {
            GridRows x = new GridRows();
            x.hear(-30, -10);
            due("CHOICE of POINTS 0 and 2", x.nearest(0, 1), 0);
            x.hear(-10, 30);
            x.end(0);
            due("CHOICE of POINTS 2 and 10, 800 away", x.nearest(1, 1), 1);
        });
        Edges.sentence("NEAREST: of like ones the first STEP BY STEP", () -> {
            GridRows x = new GridRows();
            // BITS 0, 1 (to STATE 2) and BITS 1, 0 (to STATE 1) both cost 400
            x.hear(-30, -30);
            x.hear(-10, -10);
            due("COST", x.told(8), 400);
            due("BIT of STEP 0", x.nearest(0, 0), 0);
            due("BIT of STEP 1", x.nearest(1, 0), 1);
            due("STATE behind", x.nearest(1, 3), 2);
            x.end(1);
            due("COST of the other", x.told(8), 400);
            due("BIT of STEP 0 of the other", x.nearest(0, 0), 1);
        });
        Edges.sentence("END: (a STATE; NONE at first)", () -> due("told(7)", new GridRows().told(7), NONE));
        Edges.sentence("END: if it is told, ROWS that end in that STATE alone", () -> {
            for (int m = 1; m <= 3; m++) {
                GridRows x = Edges.coded(m, 2, 3);
                x.drift(24, 12345);
                for (int state = 0; state < 1 << m; state++) {
                    x.end(state);
                    due("STATE behind the ROW", x.nearest(23, 3), state);
                    due("its COST", x.told(8), x.ahead(24, state));
                }
            }
        });
        Edges.sentence("END: NONE again: any ROW", () -> {
            GridRows x = Edges.hearing(5);
            int any = x.told(8);
            x.end(x.nearest(4, 3) == 0 ? 3 : 0);
            due("a dearer one", x.told(8) >= any ? 1 : 0, 1);
            x.end(NONE);
            due("the first again", x.told(8), any);
        });
        Edges.sentence("END: no ROW ends there (nothing HEARD)", () -> {
            GridRows x = new GridRows();
            int[] costs = {0, NEVER, NEVER, NEVER};
            for (int state = 0; state < 4; state++) {
                x.end(state);
                due("told(8) with END " + state, x.told(8), costs[state]);
            }
        });
        Edges.sentence("END: no ROW ends there (so few HEARD)", () -> {
            GridRows x = Edges.coded(3, 1, 1);
            x.end(7);
            for (int heard = 1; heard <= 3; heard++) {
                x.hear(0, 0);
                due("told(8) of " + heard, x.told(8) == NEVER ? 1 : 0, heard < 3 ? 1 : 0);
                due("nearest(0, 0) of " + heard, x.nearest(0, 0), heard < 3 ? NONE : 1);
            }
        });
    }

    // ---- ahead, decided

    private static void aheadAndDecided() {
        Edges.sentence("AHEAD of a STATE behind k STEPS HEARD; NEVER: none comes to it", () -> {
            for (int m = 1; m <= 3; m++) {
                GridRows x = Edges.coded(m, 1, 1);
                for (int k = 0; k <= m + 1; k++) {
                    for (int state = 0; state < 1 << m; state++) {
                        // behind k STEPS only the k highest bits of a STATE can be 1
                        boolean reached = state % (1 << Math.max(0, m - k)) == 0;
                        due("ahead(" + k + ", " + state + ") is NEVER, M " + m, x.ahead(k, state) == NEVER ? 1 : 0, reached ? 0 : 1);
                    }
                    x.hear(0, 0);
                }
            }
        });
        Edges.sentence("AHEAD behind no STEPS: STATE 0 alone, at no COST", () -> {
            GridRows x = Edges.hearing(24);
            due("ahead(0, 0)", x.ahead(0, 0), 0);
            due("ahead(0, 1)", x.ahead(0, 1), NEVER);
        });
        Edges.sentence("AHEAD: the least COST of ROWS (whatever END is)", () -> {
            GridRows x = new GridRows();
            x.hear(-30, -30);
            x.end(3);
            due("ahead(0, 0)", x.ahead(0, 0), 0);
            due("ahead(1, 0)", x.ahead(1, 0), 0);
            due("ahead(1, 2)", x.ahead(1, 2), 400);
            due("ahead(1, 3)", x.ahead(1, 3), NEVER);
        });
        Edges.sentence("DECIDED: of the first k and t and 1 STEPS; NONE: so many were not HEARD", () -> {
            for (int heard = 1; heard <= 24; heard++) {
                GridRows x = Edges.hearing(heard);
                due("the last without PATIENCE", x.decided(heard - 1, 0) >= 0 ? 1 : 0, 1);
                due("the last with PATIENCE 1", x.decided(heard - 1, 1), NONE);
                due("STEP 0 with all of them", x.decided(0, heard - 1), x.nearest(0, 2));
                due("STEP 0 with one more", x.decided(0, heard), heard < 24 ? NONE : OUTSIDE);
            }
        });
        Edges.sentence("DECIDED (whatever END is)", () -> {
            GridRows x = new GridRows();
            x.hear(-30, -30);
            x.end(1);
            due("no ROW ends there", x.told(8), NEVER);
            due("decided(0, 0)", x.decided(0, 0), 0);
            x.end(2);
            due("another ROW ends there", x.nearest(0, 2), 4);
            due("decided(0, 0)", x.decided(0, 0), 0);
        });
        Edges.sentence("DECIDED looks at no more STEPS than the first k and t and 1", () -> {
            GridRows x = new GridRows();
            x.hear(-10, 30);
            due("decided(0, 0)", x.decided(0, 0), 6);
            x.hear(10, 10);
            due("decided(0, 0), one more HEARD", x.decided(0, 0), 6);
            due("decided(0, 1)", x.decided(0, 1), 2);
        });
    }

    // ---- apart, free

    private static void parting() {
        Edges.sentence("APART of one FAMILY with itself: of two unlike POINTS", () -> {
            for (int family = 0; family < 4; family++) {
                due("apart(" + family + ", " + family + ")", new GridRows().apart(family, family), 1600);
            }
        });
        Edges.sentence("FREE: begin in one STATE by unlike BITS", () ->
            due("FREE of 1, 1, 1: like BITS would give 0", freeOf(1, 1, 1), 400));
        Edges.sentence("FREE: FAMILIES that are alike there count 0", () -> {
            due("FREE of 3, 8, 8: the first STEP alone counts", freeOf(3, 8, 8), 400);
            due("FREE of 3, 1, 1: the last STEP alone counts", freeOf(3, 1, 1), 400);
            due("FREE of 1, 3, 3: the first and the last", freeOf(1, 3, 3), 800);
        });
        Edges.sentence("FREE: of no more than 30 STEPS (the most that a code needs is 8)", () -> {
            due("FREE of 3, 11, 11", freeOf(3, 11, 11), 800);
            due("FREE of 3, 13, 13", freeOf(3, 13, 13), 800);
        });
        Edges.sentence("FREE: or APART of one FAMILY with itself, if that is less", () -> {
            due("FREE of 2, 2, 5: rows are 2000 apart", freeOf(2, 2, 5), 1600);
            due("FREE of 3, 2, 13: rows are 2400 apart", freeOf(3, 2, 13), 1600);
            due("FREE of 2, 5, 2: rows are 1600 apart", freeOf(2, 5, 2), 1600);
            due("FREE of 2, 7, 5: rows are 1200 apart", freeOf(2, 7, 5), 1200);
        });
    }

    private static int freeOf(int m, int g, int h) {
        return Edges.coded(m, g, h).told(10);
    }

    // ---- turned

    private static void turning() {
        Edges.sentence("TURNED by a quarter: the place X, Y comes to -Y, X", () -> {
            GridRows x = new GridRows();
            for (int p = 0; p < 16; p++) {
                int q = x.point(p, 4);
                due("X of " + p + ", TURNED", x.point(q, 0), -x.point(p, 1));
                due("Y of " + p + ", TURNED", x.point(q, 1), x.point(p, 0));
            }
        });
        Edges.sentence("TURNED FAMILY: that to which its POINTS come", () -> {
            GridRows x = new GridRows();
            for (int p = 0; p < 16; p++) {
                due("turned() of the FAMILY of " + p, x.turned(x.point(p, 2)), x.point(x.point(p, 4), 2));
            }
        });
        Edges.sentence("TURNS ALIKE (no code within the bounds does)", () -> {
            for (int m = 1; m <= 3; m++) {
                int most = (2 << m) - 1;
                for (int g = 1; g <= most; g++) {
                    for (int h = 1; h <= most; h++) {
                        due("told(11) of " + m + ", " + g + ", " + h, Edges.coded(m, g, h).told(11), 0);
                    }
                }
            }
        });
    }

    // ---- written

    private static void written() {
        Edges.sentence("WRITTEN: behind each fourth STEP a '-', if more follow", () -> {
            for (int steps = 0; steps <= 24; steps++) {
                GridRows x = Edges.hearing(steps);
                int signs = 2 * steps + (steps == 0 ? 0 : (steps - 1) / 4);
                due("told(12) of " + steps, x.told(12), signs);
                due("behind the last of " + steps, x.sign(signs), NONE);
                for (int i = 0; i < signs; i++) {
                    due("sign(" + i + ") of " + steps + " is '-'", x.sign(i) == '-' ? 1 : 0, i % 9 == 8 ? 1 : 0);
                }
            }
        });
        Edges.sentence("WRITTEN: the FAMILY as a letter 65 .. 68", () -> {
            int[] beside = {0, 5, 4, 1};
            for (int family = 0; family < 4; family++) {
                // with RULES 2, 1 and STATE 1 behind the first STEP, each FAMILY can come as the second
                GridRows x = Edges.coded(1, 2, 1);
                x.hear(0, 0);
                x.hear(x.point(beside[family], 0), x.point(beside[family], 1));
                due("letter of FAMILY " + family, x.sign(2), 65 + family);
            }
        });
        Edges.sentence("WRITTEN: the CHOICE as a figure (0 .. 3)", () -> {
            for (int w = 0; w < 4; w++) {
                GridRows x = new GridRows();
                x.hear(x.point(x.member(0, w), 0), x.point(x.member(0, w), 1));
                due("figure of CHOICE " + w, x.sign(1), 48 + w);
            }
        });
        Edges.sentence("WRITTEN: (Nothing, if there is no ROW.)", () -> {
            GridRows x = new GridRows();
            x.hear(0, 0);
            x.end(3);
            due("told(12)", x.told(12), 0);
            due("sign(0)", x.sign(0), NONE);
            x.end(NONE);
            due("told(12) when there is one", x.told(12), 2);
        });
    }

    // ---- by lots

    private static void lots() {
        Edges.sentence("BY LOTS of the least SEED", () -> drifted(1, new int[][] {{1, 1, 6, 1, 6}, {0, 0, 5, -3, -19}, {1, 1, 2, -27, 13}}));
        Edges.sentence("BY LOTS of the greatest SEED", () -> drifted(999999, new int[][] {{0, 0, 0, -28, -28}, {0, 2, 8, 11, -28}, {0, 2, 8, 11, -37}}));
        Edges.sentence("BY LOTS: X of the place by 12 less and by 12 more", () -> {
            drifted(3, new int[][] {{1, 3, 14, 30 - 12, 10 - 10}});
            drifted(2, new int[][] {{0, 2, 8, 10 + 12, -30 + 4}});
        });
        Edges.sentence("BY LOTS: Y of the place by 12 less and by 12 more", () -> {
            drifted(24, new int[][] {{0, 3, 10, 10 - 6, 10 - 12}});
            drifted(16, new int[][] {{0, 2, 8, 10 - 8, -30 + 12}});
        });
        Edges.sentence("BY LOTS: the 24th STEP (X times 16807 is never cut)", () -> {
            GridRows x = new GridRows();
            x.drift(24, 999999);
            int[] want = {1, 3, 15};
            for (int what = 0; what < 3; what++) {
                due("sent(23, " + what + ")", x.sent(23, what), want[what]);
            }
            due("heard(23, 0)", x.heard(23, 0), 27);
            due("heard(23, 1)", x.heard(23, 1), 42);
        });
        Edges.sentence("BY LOTS: X is the SEED at first (each time)", () -> {
            GridRows x = new GridRows();
            x.drift(2, 1);
            x.drift(2, 1);
            for (int k = 0; k < 2; k++) {
                due("BIT of STEP " + (k + 2), x.sent(k + 2, 0), x.sent(k, 0));
                due("CHOICE of STEP " + (k + 2), x.sent(k + 2, 1), x.sent(k, 1));
            }
        });
        Edges.sentence("BY LOTS: as long as there is room for both (to be SENT)", () -> room(Edges.sending(22), 2, 24, 2));
        Edges.sentence("BY LOTS: as long as there is room for both (to be HEARD)", () -> room(Edges.hearing(22), 2, 2, 24));
        Edges.sentence("BY LOTS: as long as there is room for both (none to be SENT)", () -> room(Edges.sending(24), 0, 24, 0));
        Edges.sentence("BY LOTS: as long as there is room for both (none to be HEARD)", () -> room(Edges.hearing(24), 0, 0, 24));
        Edges.sentence("BY LOTS: as long as there is room for both (just enough)", () -> room(Edges.hearing(19), 5, 5, 24));
        Edges.sentence("BY LOTS: HEARD is put behind what was HEARD, SENT behind what was SENT", () -> {
            GridRows x = Edges.hearing(3);
            x.send(0, 0);
            x.drift(1, 1);
            due("POINT SENT", x.sent(1, 2), 6);
            due("X HEARD", x.heard(3, 0), 1);
            due("Y HEARD", x.heard(3, 1), 6);
        });
    }

    private static void drifted(int seed, int[][] steps) {
        GridRows x = new GridRows();
        due("drift(n, " + seed + ")", x.drift(steps.length, seed), steps.length);
        for (int k = 0; k < steps.length; k++) {
            for (int what = 0; what < 3; what++) {
                due("sent(" + k + ", " + what + ") by SEED " + seed, x.sent(k, what), steps[k][what]);
            }
            due("heard(" + k + ", 0) by SEED " + seed, x.heard(k, 0), steps[k][3]);
            due("heard(" + k + ", 1) by SEED " + seed, x.heard(k, 1), steps[k][4]);
        }
        due("told(4)", x.told(4), steps.length);
        due("told(5)", x.told(5), steps.length);
    }

    private static void room(GridRows x, int taken, int sent, int heard) {
        due("drift(5, 77)", x.drift(5, 77), taken);
        due("told(4)", x.told(4), sent);
        due("told(5)", x.told(5), heard);
    }

    // ---- undone, images

    private static void undone() {
        Edges.sentence("UNDONE: 8 at most are kept", () -> {
            GridRows x = new GridRows();
            for (int calls = 0; calls <= 12; calls++) {
                due("told(13) behind " + calls, x.told(13), Math.min(calls, 8));
                x.hear(calls, 0);
            }
        });
        Edges.sentence("UNDONE: the oldest are lost", () -> {
            GridRows x = Edges.hearing(9);
            for (int left = 7; left >= 0; left--) {
                due("undo()", x.undo(), left);
                due("told(5)", x.told(5), left + 1);
            }
            due("the first hear() cannot be undone", x.undo(), NOT);
            due("told(5)", x.told(5), 1);
        });
        Edges.sentence("UNDONE: eight calls, all of them", () -> {
            GridRows x = Edges.hearing(8);
            for (int left = 7; left >= 0; left--) {
                due("undo()", x.undo(), left);
            }
            due("told(5)", x.told(5), 0);
            due("undo()", x.undo(), NOT);
        });
        Edges.sentence("UNDONE: the latest, whatever was undone and lost before", () -> {
            GridRows x = Edges.hearing(11);
            x.undo();
            x.undo();
            x.undo();
            for (int k = 0; k < 6; k++) {
                x.hear(50 + k, k);
            }
            due("told(5)", x.told(5), 14);
            for (int left = 7; left >= 0; left--) {
                due("undo()", x.undo(), left);
                due("told(5)", x.told(5), 6 + left);
                due("the last HEARD", x.heard(5 + left, 0), left < 3 ? 7 * (5 + left) - 80 : 47 + left);
            }
            due("undo()", x.undo(), NOT);
        });
        undoneCall("send()", x -> x.send(0, 2));
        undoneCall("hear()", x -> x.hear(-99, 99));
        undoneCall("drift()", x -> x.drift(24, 8));
        undoneCall("wipe()", GridRows::wipe);
        undoneCall("code()", x -> x.code(3, 15, 15));
        undoneCall("end()", x -> x.end(NONE));
        Edges.sentence("UNDONE: what was SENT and HEARD otherwise meanwhile is as ahead of it", () -> {
            GridRows x = Edges.busy();
            x.wipe();
            x.code(3, 15, 14);
            x.drift(24, 6);
            x.end(7);
            for (int left = 7; left >= 4; left--) {
                due("undo()", x.undo(), left);
            }
            busyAgain(x);
        });
        Edges.sentence("UNDONE: a call that was not refused, though it changed nothing", () -> {
            GridRows x = new GridRows();
            x.wipe();
            due("told(13) behind wipe() of nothing", x.told(13), 1);
            x.end(NONE);
            due("told(13) behind end() as it was", x.told(13), 2);
            x.code(2, 5, 2);
            due("told(13) behind code() as it was", x.told(13), 3);
            x = Edges.hearing(24);
            x.keep(0);
            x.drift(1, 1);
            due("told(13) behind drift() without room", x.told(13), 1);
        });
        Edges.sentence("UNDONE: of those six alone", () -> {
            GridRows x = Edges.busy();
            x.told(8);
            x.sent(0, 0);
            x.nearest(0, 0);
            x.decided(0, 0);
            x.cost();
            x.sign(0);
            due("told(13) behind what only asks", x.told(13), 7);
            x.undo();
            due("undo() is not undone", x.undo(), 5);
        });
    }

    private static void undoneCall(String name, Edges.Call call) {
        Edges.sentence("UNDONE: the latest of " + name + ": all is as ahead of it", () -> {
            GridRows x = Edges.busy();
            call.on(x);
            due("told(13) behind it", x.told(13), 8);
            due("undo()", x.undo(), 7);
            busyAgain(x);
        });
    }

    private static void busyAgain(GridRows x) {
        int[] told = {1, 1, 2, 2, 2, 3, 0, 1};
        for (int what = 0; what < told.length; what++) {
            due("told(" + what + ")", x.told(what), told[what]);
        }
        int[][] sent = {{1, 3, 15, 1}, {0, 1, 6, 0}};
        for (int k = 0; k < sent.length; k++) {
            for (int what = 0; what < 4; what++) {
                due("sent(" + k + ", " + what + ")", x.sent(k, what), sent[k][what]);
            }
        }
        int[][] heard = {{4, 5}, {6, 7}, {8, 9}};
        for (int k = 0; k < heard.length; k++) {
            for (int what = 0; what < 2; what++) {
                due("heard(" + k + ", " + what + ")", x.heard(k, what), heard[k][what]);
            }
        }
    }

    private static void images() {
        Edges.sentence("IMAGES 0, 1", () -> {
            Edges.bounds("keep(n)", 0, 1, UNKNOWN, Edges::busy, (x, n) -> x.keep(n));
            Supplier<GridRows> bothKept = () -> {
                GridRows x = Edges.busy();
                x.keep(0);
                x.send(1, 1);
                return x;
            };
            Edges.bounds("goBack(n)", 0, 1, UNKNOWN, bothKept, (x, n) -> x.goBack(n));
        });
        Edges.sentence("IMAGES keep all of these: THE CODE, what was SENT, HEARD, END", () -> {
            GridRows x = Edges.busy();
            x.keep(0);
            x.code(3, 15, 14);
            x.drift(24, 6);
            x.end(7);
            x.goBack(0);
            busyAgain(x);
        });
        Edges.sentence("IMAGES keep as much as there can be, and nothing at all", () -> {
            GridRows x = new GridRows();
            due("keep(0)", x.keep(0), 0);
            x.drift(24, 31);
            int cost = x.told(8);
            due("keep(1)", x.keep(1), 24);
            due("goBack(0)", x.goBack(0), 0);
            due("told(4)", x.told(4), 0);
            due("goBack(1)", x.goBack(1), 24);
            due("told(4)", x.told(4), 24);
            due("told(8)", x.told(8), cost);
        });
    }

    private static void allCallsOfOneObject() {
        GridRows x = new GridRows();
        for (int round = 1; round <= 255; round++) {
            due("drift(24, " + round + ")", x.drift(24, round), 24);
            due("wipe() of round " + round, x.wipe(), 48);
        }
        due("call 511, drift(3, 1)", x.drift(3, 1), 3);
        due("call 512, sent(2, 2)", x.sent(2, 2), 2);
    }
}
