import java.util.function.Supplier;

/** The sentences of 'Promise 1' to 'Promise 24' that name a boundary case, each with a test of its own. */
public final class PromisesEdgesTest {
    private static final int NONE = Edges.NONE, NEVER = Edges.NEVER;
    private static final int UNKNOWN = Edges.UNKNOWN, OUTSIDE = Edges.OUTSIDE, NOT = Edges.NOT, FULL = Edges.FULL;
    private static final int LEAST = Edges.LEAST, MOST = Edges.MOST;

    private PromisesEdgesTest() {
    }

    private static void due(String call, int got, int want) {
        Edges.due(call, got, want);
    }

    public static void main(String[] args) {
        newObject();
        code();
        send();
        hear();
        drift();
        wipe();
        end();
        undo();
        told();
        toldOfNearest();
        pointAndMember();
        familiesAndDistances();
        next();
        sent();
        heard();
        nearest();
        ahead();
        decided();
        cost();
        sign();
        keep();
        goBack();
        Edges.endOfTests();
    }

    private static void newObject() {
        Edges.sentence("1: MEMORY 2, RULES 5, 2", () -> {
            int[] told = {2, 5, 2, 4};
            for (int what = 0; what < told.length; what++) {
                due("told(" + what + ")", new GridRows().told(what), told[what]);
            }
        });
        Edges.sentence("1: nothing SENT", () -> {
            due("told(4)", new GridRows().told(4), 0);
            Edges.refused("sent(0, 0)", UNKNOWN, GridRows::new, x -> x.sent(0, 0));
        });
        Edges.sentence("1: nothing HEARD", () -> {
            due("told(5)", new GridRows().told(5), 0);
            Edges.refused("heard(0, 0)", UNKNOWN, GridRows::new, x -> x.heard(0, 0));
        });
        Edges.sentence("1: a new object has nothing of another one", () -> {
            GridRows x = new GridRows();
            Edges.full().keep(1);
            due("told(4)", x.told(4), 0);
            due("goBack(1)", x.goBack(1), NOT);
            due("undo()", x.undo(), NOT);
        });
    }

    private static void code() {
        Edges.sentence("2: nothing is SENT, HEARD then (with as much as there is room for)", () -> {
            GridRows x = Edges.full();
            due("code(2, 5, 2), as it was", x.code(2, 5, 2), 4);
            due("told(4)", x.told(4), 0);
            due("told(5)", x.told(5), 0);
            due("told(6)", x.told(6), 0);
        });
        Edges.sentence("2: END NONE then", () -> {
            GridRows x = new GridRows();
            x.end(3);
            x.code(2, 5, 2);
            due("told(7)", x.told(7), NONE);
        });
        Edges.sentence("2: how many STATES", () -> {
            due("code(1, 1, 1)", new GridRows().code(1, 1, 1), 2);
            due("code(2, 1, 1)", new GridRows().code(2, 1, 1), 4);
            due("code(3, 1, 1)", new GridRows().code(3, 1, 1), 8);
        });
        Edges.sentence("2: THE CODE is what was told (the greatest)", () -> {
            GridRows x = Edges.coded(3, 15, 14);
            int[] told = {3, 15, 14, 8};
            for (int what = 0; what < told.length; what++) {
                due("told(" + what + ")", x.told(what), told[what]);
            }
        });
        Edges.sentence("2: OUTSIDE (each number alone)", () -> {
            Edges.refused("code(0, 1, 1)", OUTSIDE, Edges::full, x -> x.code(0, 1, 1));
            Edges.refused("code(4, 1, 1)", OUTSIDE, Edges::full, x -> x.code(4, 1, 1));
            Edges.refused("code(3, 16, 1)", OUTSIDE, Edges::full, x -> x.code(3, 16, 1));
            Edges.refused("code(3, 1, 16)", OUTSIDE, Edges::full, x -> x.code(3, 1, 16));
            Edges.refused("code(3, 0, 1)", OUTSIDE, Edges::full, x -> x.code(3, 0, 1));
            Edges.refused("code(3, 1, 0)", OUTSIDE, Edges::full, x -> x.code(3, 1, 0));
            Edges.refused("code(32, 1, 1)", OUTSIDE, Edges::full, x -> x.code(32, 1, 1));
            Edges.refused("code(LEAST, LEAST, LEAST)", OUTSIDE, Edges::full, x -> x.code(LEAST, LEAST, LEAST));
        });
    }

    private static void send() {
        Edges.sentence("3: its POINT (each BIT with the least and the greatest CHOICE)", () -> {
            due("send(0, 0)", new GridRows().send(0, 0), 0);
            due("send(0, 3)", new GridRows().send(0, 3), 10);
            due("send(1, 0)", new GridRows().send(1, 0), 4);
            due("send(1, 3)", new GridRows().send(1, 3), 14);
        });
        Edges.sentence("3: OUTSIDE", () -> {
            Edges.bounds("send(n, 3)", 0, 1, OUTSIDE, Edges::busy, (x, n) -> x.send(n, 3));
            Edges.bounds("send(1, n)", 0, 3, OUTSIDE, Edges::busy, (x, n) -> x.send(1, n));
        });
        Edges.sentence("3: FULL (24)", () -> {
            due("the 24th", Edges.sending(23).send(0, 0) >= 0 ? 1 : 0, 1);
            Edges.refused("the 25th", FULL, () -> Edges.sending(24), x -> x.send(0, 0));
            Edges.refused("the 25th, as many HEARD", FULL, Edges::full, x -> x.send(1, 3));
        });
        Edges.sentence("3: FULL no more, when the latest is undone or all is wiped", () -> {
            GridRows x = Edges.sending(24);
            x.undo();
            due("send(0, 0) behind undo()", x.send(0, 0) >= 0 ? 1 : 0, 1);
            due("send(0, 0) once more", x.send(0, 0), FULL);
            x.wipe();
            due("send(0, 0) behind wipe()", x.send(0, 0), 0);
        });
        Edges.sentence("3: what is HEARD makes nothing FULL", () -> due("send(1, 0)", Edges.hearing(24).send(1, 0), 4));
    }

    private static void hear() {
        Edges.sentence("4: how many (the first and the last)", () -> {
            due("the first", new GridRows().hear(0, 0), 1);
            due("the 24th", Edges.hearing(23).hear(0, 0), 24);
        });
        Edges.sentence("4: the corners of where it may lie", () -> {
            int[] ends = {-99, 99};
            for (int a : ends) {
                for (int b : ends) {
                    GridRows x = new GridRows();
                    due("hear(" + a + ", " + b + ")", x.hear(a, b), 1);
                    due("heard(0, 0)", x.heard(0, 0), a);
                    due("heard(0, 1)", x.heard(0, 1), b);
                }
            }
        });
        Edges.sentence("4: OUTSIDE", () -> {
            Edges.bounds("hear(n, 99)", -99, 99, OUTSIDE, Edges::busy, (x, n) -> x.hear(n, 99));
            Edges.bounds("hear(-99, n)", -99, 99, OUTSIDE, Edges::busy, (x, n) -> x.hear(-99, n));
        });
        Edges.sentence("4: FULL (24)", () -> {
            Edges.refused("the 25th", FULL, () -> Edges.hearing(24), x -> x.hear(0, 0));
            Edges.refused("the 25th, as many SENT", FULL, Edges::full, x -> x.hear(99, -99));
        });
        Edges.sentence("4: FULL no more, when the latest is undone or all is wiped", () -> {
            GridRows x = Edges.hearing(24);
            x.undo();
            due("hear(0, 0) behind undo()", x.hear(0, 0), 24);
            due("hear(0, 0) once more", x.hear(0, 0), FULL);
            x.wipe();
            due("hear(0, 0) behind wipe()", x.hear(0, 0), 1);
        });
        Edges.sentence("4: what is SENT makes nothing FULL", () -> due("hear(0, 0)", Edges.sending(24).hear(0, 0), 1));
    }

    private static void drift() {
        Edges.sentence("5: n STEPS (1 .. 24)", () ->
            Edges.bounds("drift(n, 7)", 1, 24, OUTSIDE, Edges::busy, (x, n) -> x.drift(n, 7)));
        Edges.sentence("5: a SEED (1 .. 999999)", () ->
            Edges.bounds("drift(2, n)", 1, 999999, OUTSIDE, Edges::busy, (x, n) -> x.drift(2, n)));
        Edges.sentence("5: how many were SENT (by it)", () -> {
            due("drift(1, 7)", new GridRows().drift(1, 7), 1);
            due("drift(24, 7)", new GridRows().drift(24, 7), 24);
            due("drift(1, 7) behind others", Edges.sending(10).drift(1, 7), 1);
            due("drift(24, 7) with room for 21", Edges.busy().drift(24, 7), 21);
            due("drift(24, 7) with room for one", Edges.sending(23).drift(24, 7), 1);
            due("drift(24, 7) without room", Edges.full().drift(24, 7), 0);
        });
        Edges.sentence("5: OUTSIDE, though there is no room", () -> {
            Edges.refused("drift(0, 1)", OUTSIDE, Edges::full, x -> x.drift(0, 1));
            Edges.refused("drift(25, 1)", OUTSIDE, Edges::full, x -> x.drift(25, 1));
            Edges.refused("drift(1, 0)", OUTSIDE, Edges::full, x -> x.drift(1, 0));
            Edges.refused("drift(1, 1000000)", OUTSIDE, Edges::full, x -> x.drift(1, 1000000));
        });
        Edges.sentence("5: without room nothing but what can be undone is changed", () -> {
            GridRows x = Edges.hearing(24);
            x.send(1, 1);
            x.drift(3, 3);
            due("told(4)", x.told(4), 1);
            due("told(5)", x.told(5), 24);
            due("heard(23, 0)", x.heard(23, 0), 81);
        });
    }

    private static void wipe() {
        Edges.sentence("6: how much both were (nothing)", () -> due("wipe()", new GridRows().wipe(), 0));
        Edges.sentence("6: how much both were (all that can be)", () -> due("wipe()", Edges.full().wipe(), 48));
        Edges.sentence("6: how much both were (one of them)", () -> {
            due("wipe() of SENT", Edges.sending(24).wipe(), 24);
            due("wipe() of HEARD", Edges.hearing(24).wipe(), 24);
            due("wipe() of 2 SENT and 3 HEARD", Edges.busy().wipe(), 5);
        });
        Edges.sentence("6: Nothing is SENT, HEARD", () -> {
            GridRows x = Edges.full();
            x.wipe();
            due("told(4)", x.told(4), 0);
            due("told(5)", x.told(5), 0);
            due("told(6)", x.told(6), 0);
            due("sent(0, 0)", x.sent(0, 0), UNKNOWN);
            due("heard(0, 0)", x.heard(0, 0), UNKNOWN);
            due("wipe() again", x.wipe(), 0);
        });
        Edges.sentence("6: THE CODE and END stay", () -> {
            GridRows x = Edges.busy();
            x.wipe();
            int[] told = {1, 1, 2, 2, 0, 0, 0, 1};
            for (int what = 0; what < told.length; what++) {
                due("told(" + what + ")", x.told(what), told[what]);
            }
        });
    }

    private static void end() {
        Edges.sentence("7: END is a STATE (NONE: any); UNKNOWN", () -> {
            for (int memory = 1; memory <= 3; memory++) {
                int m = memory;
                int last = (1 << m) - 1;
                Edges.bounds("end(n) with M " + m, NONE, last, UNKNOWN, () -> Edges.coded(m, 2, 3), (x, n) -> x.end(n));
            }
        });
        Edges.sentence("7: what it was", () -> {
            GridRows x = Edges.coded(3, 2, 3);
            due("end(7)", x.end(7), NONE);
            due("end(7) again", x.end(7), 7);
            due("end(0)", x.end(0), 7);
            due("end(NONE)", x.end(NONE), 0);
            due("end(NONE) again", x.end(NONE), NONE);
        });
        Edges.sentence("7: UNKNOWN leaves END", () -> {
            GridRows x = Edges.busy();
            due("end(2)", x.end(2), UNKNOWN);
            due("end(-2)", x.end(-2), UNKNOWN);
            due("end(0)", x.end(0), 1);
        });
    }

    private static void undo() {
        Edges.sentence("8: how many more can be", () -> {
            GridRows x = Edges.full();
            for (int left = 7; left >= 0; left--) {
                due("undo()", x.undo(), left);
                due("told(13)", x.told(13), left);
            }
        });
        Edges.sentence("8: NOT: none (a new object)", () -> Edges.refused("undo()", NOT, GridRows::new, GridRows::undo));
        Edges.sentence("8: NOT: none (all are undone)", () -> {
            Supplier<GridRows> undone = () -> {
                GridRows x = Edges.hearing(10);
                for (int k = 0; k < 8; k++) {
                    x.undo();
                }
                return x;
            };
            due("told(5)", undone.get().told(5), 2);
            Edges.refused("undo()", NOT, undone, GridRows::undo);
        });
        Edges.sentence("8: NOT: none (behind keep() and goBack())", () -> {
            Supplier<GridRows> kept = () -> {
                GridRows x = Edges.busy();
                x.keep(0);
                return x;
            };
            Supplier<GridRows> goneBack = () -> {
                GridRows x = Edges.busy();
                x.goBack(1);
                return x;
            };
            Edges.refused("undo() behind keep(0)", NOT, kept, GridRows::undo);
            Edges.refused("undo() behind goBack(1)", NOT, goneBack, GridRows::undo);
        });
    }

    private static void told() {
        Edges.sentence("9: told: OUTSIDE", () ->
            Edges.bounds("told(n)", 0, 13, OUTSIDE, Edges::busy, (x, n) -> x.told(n)));
        Edges.sentence("9: 4 SENT, 5 HEARD (as much as there is room for)", () -> {
            due("told(4)", Edges.full().told(4), 24);
            due("told(5)", Edges.full().told(5), 24);
        });
        Edges.sentence("9: 6 the STATE behind what was SENT (the last STATE)", () -> {
            for (int m = 1; m <= 3; m++) {
                GridRows x = Edges.coded(m, 1, 1);
                for (int k = 0; k < 24; k++) {
                    x.send(1, 0);
                }
                due("told(6), M " + m, x.told(6), (1 << m) - 1);
            }
        });
        Edges.sentence("9: 6 the STATE behind what was SENT (nothing)", () -> due("told(6)", Edges.hearing(24).told(6), 0));
        Edges.sentence("9: 7 END (none, the first, the last STATE)", () -> {
            GridRows x = Edges.coded(3, 1, 1);
            due("told(7)", x.told(7), NONE);
            x.end(0);
            due("told(7)", x.told(7), 0);
            x.end(7);
            due("told(7)", x.told(7), 7);
        });
        Edges.sentence("9: 13 how many can be undone (none, 8 at most)", () -> {
            due("told(13) of a new object", new GridRows().told(13), 0);
            due("told(13) behind 1", Edges.hearing(1).told(13), 1);
            due("told(13) behind 8", Edges.hearing(8).told(13), 8);
            due("told(13) behind 9", Edges.hearing(9).told(13), 8);
            due("told(13) behind 24", Edges.hearing(24).told(13), 8);
        });
    }

    private static void toldOfNearest() {
        Edges.sentence("9: 8 COST of the NEAREST ROW (NEVER: there is none)", () -> {
            GridRows x = new GridRows();
            due("told(8), nothing HEARD", x.told(8), 0);
            x.hear(-30, -30);
            due("told(8), heard just so", x.told(8), 0);
            x.end(1);
            due("told(8), none ends there", x.told(8), NEVER);
            x.hear(-30, -30);
            due("told(8), one ends there", x.told(8), 1200);
        });
        Edges.sentence("9: 8 COST of the NEAREST ROW (the farthest that can be HEARD)", () -> {
            // with END 0 two STEPS have BITS 0, and so POINTS of FAMILY 0
            int[][] places = {{-99, -99, 69, 69}, {-99, 99, 69, 89}, {99, -99, 89, 69}, {99, 99, 89, 89}};
            for (int[] place : places) {
                GridRows x = new GridRows();
                x.end(0);
                x.hear(place[0], place[1]);
                x.hear(place[0], place[1]);
                due("told(8)", x.told(8), 2 * (place[2] * place[2] + place[3] * place[3]));
            }
            GridRows x = new GridRows();
            for (int k = 0; k < 24; k++) {
                x.hear(-99, -99);
            }
            due("told(8) of 24", x.told(8), 24 * 2 * 69 * 69);
        });
        Edges.sentence("9: 9 unlike POINTS (none is SENT, none is HEARD)", () -> {
            due("told(9), none SENT", Edges.hearing(24).told(9), 0);
            due("told(9), none HEARD", Edges.sending(24).told(9), 0);
        });
        Edges.sentence("9: 9 unlike POINTS (of those that both have)", () -> {
            GridRows x = new GridRows();
            x.hear(-30, -30);
            x.send(0, 3);
            due("told(9), one each", x.told(9), 1);
            x.send(0, 3);
            due("told(9), more SENT", x.told(9), 1);
            x.hear(-30, -30);
            due("told(9), two each", x.told(9), 2);
            x.hear(-30, -30);
            due("told(9), more HEARD", x.told(9), 2);
        });
        Edges.sentence("9: 9 unlike POINTS (all that can be, and none of them)", () -> {
            GridRows unlike = new GridRows();
            GridRows alike = new GridRows();
            for (int k = 0; k < 24; k++) {
                unlike.send(0, 1);
                unlike.hear(-30, -30);
                alike.send(0, 1);
                alike.hear(-30, 10);
            }
            due("told(9)", unlike.told(9), 24);
            due("told(9)", alike.told(9), 0);
        });
        Edges.sentence("9: 9 unlike POINTS (there is no ROW)", () -> {
            GridRows x = new GridRows();
            x.send(1, 1);
            x.hear(0, 0);
            x.end(3);
            due("told(9)", x.told(9), 0);
        });
        Edges.sentence("9: 12 signs WRITTEN (nothing, all that can be)", () -> {
            due("told(12)", new GridRows().told(12), 0);
            due("told(12)", Edges.full().told(12), 53);
        });
    }

    private static void pointAndMember() {
        Edges.sentence("10: Of a POINT: UNKNOWN", () -> {
            for (int asked = 0; asked <= 4; asked++) {
                int what = asked;
                Edges.bounds("point(n, " + what + ")", 0, 15, UNKNOWN, Edges::busy, (x, n) -> x.point(n, what));
            }
        });
        Edges.sentence("10: what = 0 .. 4: OUTSIDE", () -> {
            Edges.bounds("point(0, n)", 0, 4, OUTSIDE, Edges::busy, (x, n) -> x.point(0, n));
            Edges.bounds("point(15, n)", 0, 4, OUTSIDE, Edges::busy, (x, n) -> x.point(15, n));
        });
        Edges.sentence("10: the first and the last POINT", () -> {
            int[] first = {-30, -30, 0, 0, 12};
            int[] last = {30, 30, 1, 3, 3};
            for (int what = 0; what < 5; what++) {
                due("point(0, " + what + ")", new GridRows().point(0, what), first[what]);
                due("point(15, " + what + ")", new GridRows().point(15, what), last[what]);
            }
        });
        Edges.sentence("11: UNKNOWN", () -> Edges.bounds("member(n, 3)", 0, 3, UNKNOWN, Edges::busy, (x, n) -> x.member(n, 3)));
        Edges.sentence("11: The w-th POINT (0 .. 3): OUTSIDE", () ->
            Edges.bounds("member(3, n)", 0, 3, OUTSIDE, Edges::busy, (x, n) -> x.member(3, n)));
        Edges.sentence("11: the first and the last of each FAMILY", () -> {
            int[][] ends = {{0, 10}, {5, 15}, {4, 14}, {1, 11}};
            for (int family = 0; family < 4; family++) {
                due("member(" + family + ", 0)", new GridRows().member(family, 0), ends[family][0]);
                due("member(" + family + ", 3)", new GridRows().member(family, 3), ends[family][1]);
            }
        });
    }

    private static void familiesAndDistances() {
        Edges.sentence("12: UNKNOWN", () -> {
            Edges.bounds("apart(n, 3)", 0, 3, UNKNOWN, Edges::busy, (x, n) -> x.apart(n, 3));
            Edges.bounds("apart(0, n)", 0, 3, UNKNOWN, Edges::busy, (x, n) -> x.apart(0, n));
            Edges.refused("apart(4, 4)", UNKNOWN, Edges::busy, x -> x.apart(4, 4));
        });
        Edges.sentence("12: APART (perhaps of one with itself)", () -> {
            due("apart(0, 0)", new GridRows().apart(0, 0), 1600);
            due("apart(3, 3)", new GridRows().apart(3, 3), 1600);
        });
        Edges.sentence("13: UNKNOWN", () -> {
            Edges.bounds("distance(n, 3)", 0, 15, UNKNOWN, Edges::busy, (x, n) -> x.distance(n, 3));
            Edges.bounds("distance(12, n)", 0, 15, UNKNOWN, Edges::busy, (x, n) -> x.distance(12, n));
        });
        Edges.sentence("13: UNKNOWN (one twice)", () -> {
            Edges.refused("distance(0, 0)", UNKNOWN, Edges::busy, x -> x.distance(0, 0));
            Edges.refused("distance(15, 15)", UNKNOWN, Edges::busy, x -> x.distance(15, 15));
        });
        Edges.sentence("14: UNKNOWN", () -> Edges.bounds("turned(n)", 0, 3, UNKNOWN, Edges::busy, (x, n) -> x.turned(n)));
        Edges.sentence("14: TURNED FAMILY (four quarters bring each back)", () -> {
            GridRows x = new GridRows();
            for (int family = 0; family < 4; family++) {
                due("twice", x.turned(x.turned(family)), family ^ 1);
                due("four times", x.turned(x.turned(x.turned(x.turned(family)))), family);
            }
        });
    }

    private static void next() {
        Edges.sentence("15: From a STATE: UNKNOWN", () -> {
            for (int memory = 1; memory <= 3; memory++) {
                int m = memory;
                int last = (1 << m) - 1;
                Edges.bounds("next(n, 1, 1) with M " + m, 0, last, UNKNOWN, () -> Edges.coded(m, 2, 3), (x, n) -> x.next(n, 1, 1));
            }
        });
        Edges.sentence("15: by a BIT: OUTSIDE", () ->
            Edges.bounds("next(1, n, 1)", 0, 1, OUTSIDE, Edges::busy, (x, n) -> x.next(1, n, 1)));
        Edges.sentence("15: what = 0, 1: OUTSIDE", () ->
            Edges.bounds("next(1, 1, n)", 0, 1, OUTSIDE, Edges::busy, (x, n) -> x.next(1, 1, n)));
        Edges.sentence("15: from the last STATE by the greatest BIT", () -> {
            GridRows x = Edges.coded(3, 15, 7);
            due("next(7, 1, 0)", x.next(7, 1, 0), 1);
            due("next(7, 1, 1)", x.next(7, 1, 1), 7);
            due("next(0, 0, 0)", x.next(0, 0, 0), 0);
            due("next(0, 0, 1)", x.next(0, 0, 1), 0);
        });
    }

    private static void sent() {
        Edges.sentence("16: STEP k that was SENT: UNKNOWN", () -> {
            int[] counts = {1, 2, 23, 24};
            for (int count : counts) {
                Edges.bounds("sent(n, 0) of " + count, 0, count - 1, UNKNOWN, () -> Edges.sending(count), (x, n) -> x.sent(n, 0));
            }
        });
        Edges.sentence("16: UNKNOWN: none was SENT (though HEARD)", () ->
            Edges.refused("sent(0, 0)", UNKNOWN, () -> Edges.hearing(24), x -> x.sent(0, 0)));
        Edges.sentence("16: UNKNOWN: SENT no more (undone)", () -> {
            GridRows x = Edges.sending(3);
            x.undo();
            due("sent(2, 0)", x.sent(2, 0), UNKNOWN);
            due("sent(1, 1)", x.sent(1, 1), 1);
        });
        Edges.sentence("16: what = 0 .. 3: OUTSIDE", () ->
            Edges.bounds("sent(23, n)", 0, 3, OUTSIDE, Edges::full, (x, n) -> x.sent(23, n)));
        Edges.sentence("16: the first and the last STEP", () -> {
            GridRows x = new GridRows();
            x.drift(24, 999999);
            int[] first = {0, 0, 0, 0};
            int[] last = {1, 3, 15, 3};
            for (int what = 0; what < 4; what++) {
                due("sent(0, " + what + ")", x.sent(0, what), first[what]);
                due("sent(23, " + what + ")", x.sent(23, what), last[what]);
            }
        });
    }

    private static void heard() {
        Edges.sentence("17: What was HEARD as STEP k: UNKNOWN", () -> {
            int[] counts = {1, 2, 23, 24};
            for (int count : counts) {
                Edges.bounds("heard(n, 2) of " + count, 0, count - 1, UNKNOWN, () -> Edges.hearing(count), (x, n) -> x.heard(n, 2));
            }
        });
        Edges.sentence("17: UNKNOWN: none was HEARD (though SENT)", () ->
            Edges.refused("heard(0, 0)", UNKNOWN, () -> Edges.sending(24), x -> x.heard(0, 0)));
        Edges.sentence("17: what = 0 .. 2: OUTSIDE", () ->
            Edges.bounds("heard(23, n)", 0, 2, OUTSIDE, Edges::full, (x, n) -> x.heard(23, n)));
        Edges.sentence("17: the POINT nearest to it (of like ones the least)", () -> {
            int[][] places = {{0, 0, 5}, {-20, -20, 0}, {20, 20, 10}, {-20, 30, 3}, {30, 20, 14}, {0, -99, 4}, {99, 0, 13}};
            for (int[] place : places) {
                GridRows x = new GridRows();
                x.hear(place[0], place[1]);
                due("heard(0, 2) of " + place[0] + ", " + place[1], x.heard(0, 2), place[2]);
            }
        });
        Edges.sentence("17: the POINT nearest to it (each, HEARD just so)", () -> {
            for (int p = 0; p < 16; p++) {
                GridRows x = new GridRows();
                x.hear(x.point(p, 0), x.point(p, 1));
                due("heard(0, 2)", x.heard(0, 2), p);
            }
        });
        Edges.sentence("17: the POINT nearest to it (as far away as can be)", () -> {
            int[][] places = {{-99, -99, 0}, {-99, 99, 3}, {99, -99, 12}, {99, 99, 15}};
            for (int[] place : places) {
                GridRows x = new GridRows();
                x.hear(place[0], place[1]);
                due("heard(0, 2) of " + place[0] + ", " + place[1], x.heard(0, 2), place[2]);
            }
        });
    }

    private static void nearest() {
        Edges.sentence("18: UNKNOWN (not so many HEARD)", () -> {
            int[] counts = {1, 2, 23, 24};
            for (int count : counts) {
                Edges.bounds("nearest(n, 3) of " + count, 0, count - 1, UNKNOWN, () -> Edges.hearing(count), (x, n) -> x.nearest(n, 3));
            }
            Edges.refused("nearest(0, 0), none HEARD", UNKNOWN, () -> Edges.sending(24), x -> x.nearest(0, 0));
        });
        Edges.sentence("18: UNKNOWN (not so many HEARD, and there is no ROW)", () -> {
            Edges.refused("nearest(1, 0)", UNKNOWN, PromisesEdgesTest::withoutRow, x -> x.nearest(1, 0));
            Edges.refused("nearest(-1, 0)", UNKNOWN, PromisesEdgesTest::withoutRow, x -> x.nearest(-1, 0));
        });
        Edges.sentence("18: what = 0 .. 3: OUTSIDE", () ->
            Edges.bounds("nearest(2, n)", 0, 3, OUTSIDE, Edges::busy, (x, n) -> x.nearest(2, n)));
        Edges.sentence("18: NONE: there is no ROW", () -> {
            for (int what = 0; what < 4; what++) {
                due("nearest(0, " + what + ")", withoutRow().nearest(0, what), NONE);
            }
        });
        Edges.sentence("18: OUTSIDE, though there is no ROW", () -> {
            Edges.refused("nearest(0, 4)", OUTSIDE, PromisesEdgesTest::withoutRow, x -> x.nearest(0, 4));
            Edges.refused("nearest(0, -1)", OUTSIDE, PromisesEdgesTest::withoutRow, x -> x.nearest(0, -1));
        });
    }

    private static GridRows withoutRow() {
        GridRows x = new GridRows();
        x.send(1, 1);
        x.hear(10, 20);
        x.end(3);
        return x;
    }

    private static void ahead() {
        Edges.sentence("19: behind k STEPS (0 to how many were HEARD): OUTSIDE", () -> {
            int[] counts = {0, 1, 23, 24};
            for (int count : counts) {
                Edges.bounds("ahead(n, 0) of " + count, 0, count, OUTSIDE, () -> Edges.hearing(count), (x, n) -> x.ahead(n, 0));
            }
        });
        Edges.sentence("19: of a STATE: UNKNOWN", () -> {
            for (int memory = 1; memory <= 3; memory++) {
                int m = memory;
                int last = (1 << m) - 1;
                Edges.bounds("ahead(0, n) with M " + m, 0, last, UNKNOWN, () -> Edges.coded(m, 3, 2), (x, n) -> x.ahead(0, n));
            }
        });
        Edges.sentence("19: NEVER (until as many were HEARD as it takes)", () -> {
            GridRows x = Edges.coded(3, 1, 1);
            for (int k = 0; k < 4; k++) {
                due("ahead(" + k + ", 7) is NEVER", x.ahead(k, 7) == NEVER ? 1 : 0, k < 3 ? 1 : 0);
                x.hear(0, 0);
            }
        });
        Edges.sentence("19: the least COST of all that were HEARD", () -> {
            GridRows x = new GridRows();
            for (int k = 0; k < 24; k++) {
                x.hear(-99, -99);
            }
            due("ahead(24, 0)", x.ahead(24, 0), 24 * 2 * 69 * 69);
            due("ahead(23, 0)", x.ahead(23, 0), 23 * 2 * 69 * 69);
        });
    }

    private static void decided() {
        Edges.sentence("20: UNKNOWN (not so many HEARD)", () -> {
            int[] counts = {1, 2, 23, 24};
            for (int count : counts) {
                Edges.bounds("decided(n, 0) of " + count, 0, count - 1, UNKNOWN, () -> Edges.hearing(count), (x, n) -> x.decided(n, 0));
            }
            Edges.refused("decided(0, 0), none HEARD", UNKNOWN, () -> Edges.sending(24), x -> x.decided(0, 0));
        });
        Edges.sentence("20: PATIENCE t (0 .. 23): OUTSIDE", () -> {
            Edges.bounds("decided(0, n) of 24", 0, 23, OUTSIDE, () -> Edges.hearing(24), (x, n) -> x.decided(0, n));
            Edges.bounds("decided(0, n) of 1", 0, 23, OUTSIDE, () -> Edges.hearing(1), (x, n) -> x.decided(0, n));
            Edges.bounds("decided(23, n) of 24", 0, 23, OUTSIDE, () -> Edges.hearing(24), (x, n) -> x.decided(23, n));
        });
        Edges.sentence("20: NONE (so many were not HEARD: just as many, and one more)", () -> {
            GridRows x = Edges.hearing(24);
            due("decided(0, 23)", x.decided(0, 23), x.nearest(0, 2));
            due("decided(1, 22)", x.decided(1, 22), x.nearest(1, 2));
            due("decided(1, 23)", x.decided(1, 23), NONE);
            due("decided(23, 0)", x.decided(23, 0), x.nearest(23, 2));
            due("decided(23, 1)", x.decided(23, 1), NONE);
            due("decided(23, 23)", x.decided(23, 23), NONE);
        });
        Edges.sentence("20: DECIDED, though there is no ROW by END", () ->
            due("decided(0, 0)", withoutRow().decided(0, 0), 10));
    }

    private static void cost() {
        Edges.sentence("21: as far as both go (nothing)", () -> {
            due("cost() of a new object", new GridRows().cost(), 0);
            due("cost(), nothing HEARD", Edges.sending(24).cost(), 0);
            due("cost(), nothing SENT", Edges.hearing(24).cost(), 0);
        });
        Edges.sentence("21: as far as both go (more SENT, more HEARD)", () -> {
            GridRows x = new GridRows();
            x.send(0, 0);
            x.hear(-30, -29);
            due("one each", x.cost(), 1);
            x.send(0, 0);
            due("more SENT", x.cost(), 1);
            x.hear(-30, -28);
            due("two each", x.cost(), 5);
            x.hear(-30, -27);
            due("more HEARD", x.cost(), 5);
        });
        Edges.sentence("21: as far as both go (all that can be, as far away as can be)", () -> {
            GridRows x = new GridRows();
            for (int k = 0; k < 24; k++) {
                x.send(0, 0);
                x.hear(99, 99);
            }
            due("cost()", x.cost(), 798768);
        });
        Edges.sentence("21: COST of the ROW that was SENT (whatever END is)", () -> {
            GridRows x = withoutRow();
            due("cost(): POINT 6 and 10, 20", x.cost(), 400 + 100);
        });
    }

    private static void sign() {
        Edges.sentence("22: OUTSIDE: below 0", () -> {
            Edges.refused("sign(-1)", OUTSIDE, Edges::full, x -> x.sign(-1));
            Edges.refused("sign(LEAST)", OUTSIDE, Edges::full, x -> x.sign(LEAST));
            Edges.refused("sign(-1), nothing WRITTEN", OUTSIDE, GridRows::new, x -> x.sign(-1));
            Edges.refused("sign(-1), no ROW", OUTSIDE, PromisesEdgesTest::withoutRow, x -> x.sign(-1));
        });
        Edges.sentence("22: NONE: not so many", () -> {
            due("sign(0), nothing WRITTEN", new GridRows().sign(0), NONE);
            due("sign(0), no ROW", withoutRow().sign(0), NONE);
            due("sign(2) of one STEP", Edges.hearing(1).sign(2), NONE);
            due("sign(8) of four STEPS", Edges.hearing(4).sign(8), NONE);
            due("sign(53) of 24 STEPS", Edges.full().sign(53), NONE);
            due("sign(MOST)", Edges.full().sign(MOST), NONE);
        });
        Edges.sentence("22: the first and the last sign", () -> {
            GridRows x = new GridRows();
            for (int k = 0; k < 24; k++) {
                x.hear(10, 10);
            }
            due("sign(0)", x.sign(0), 'A');
            due("sign(1)", x.sign(1), '3');
            due("sign(44), behind the 20th STEP", x.sign(44), '-');
            due("sign(51)", x.sign(51), 'A');
            due("sign(52)", x.sign(52), '3');
        });
    }

    private static void keep() {
        Edges.sentence("23: UNKNOWN", () -> Edges.bounds("keep(n)", 0, 1, UNKNOWN, Edges::full, (x, n) -> x.keep(n)));
        Edges.sentence("23: how many were HEARD", () -> {
            due("keep(0) of nothing", new GridRows().keep(0), 0);
            due("keep(0) of SENT alone", Edges.sending(24).keep(0), 0);
            due("keep(1) of 3", Edges.busy().keep(1), 3);
            due("keep(1) of 24", Edges.full().keep(1), 24);
        });
        Edges.sentence("23: nothing can be undone then", () -> {
            for (int i = 0; i < 2; i++) {
                GridRows x = Edges.full();
                x.keep(i);
                due("told(13)", x.told(13), 0);
                due("undo()", x.undo(), NOT);
                due("told(5)", x.told(5), 24);
            }
        });
        Edges.sentence("23: IMAGE i becomes what is so (kept twice: the latter; the other one stays)", () -> {
            GridRows x = Edges.hearing(2);
            x.keep(0);
            x.hear(1, 1);
            x.keep(1);
            x.hear(2, 2);
            due("keep(0) again", x.keep(0), 4);
            due("goBack(1)", x.goBack(1), 3);
            due("goBack(0)", x.goBack(0), 4);
        });
        Edges.sentence("23: what is so stays, and an IMAGE does not change with it", () -> {
            GridRows x = Edges.busy();
            x.keep(0);
            due("told(4)", x.told(4), 2);
            due("told(7)", x.told(7), 1);
            x.wipe();
            x.undo();
            x.hear(50, 50);
            x.code(2, 1, 1);
            due("goBack(0)", x.goBack(0), 3);
            due("told(0)", x.told(0), 1);
        });
    }

    private static void goBack() {
        Edges.sentence("24: UNKNOWN", () -> {
            Supplier<GridRows> bothKept = () -> {
                GridRows x = Edges.full();
                x.keep(1);
                x.end(2);
                return x;
            };
            Edges.bounds("goBack(n)", 0, 1, UNKNOWN, bothKept, (x, n) -> x.goBack(n));
        });
        Edges.sentence("24: NOT: it was not kept", () -> {
            Edges.refused("goBack(0) of a new object", NOT, GridRows::new, x -> x.goBack(0));
            Edges.refused("goBack(1) of a new object", NOT, GridRows::new, x -> x.goBack(1));
            Edges.refused("goBack(0), the other one kept", NOT, Edges::busy, x -> x.goBack(0));
            Edges.refused("goBack(1), the other one kept", NOT, Edges::full, x -> x.goBack(1));
        });
        Edges.sentence("24: how many were HEARD", () -> {
            GridRows x = Edges.full();
            x.keep(1);
            x.wipe();
            x.keep(0);
            due("goBack(1)", x.goBack(1), 24);
            due("goBack(0)", x.goBack(0), 0);
        });
        Edges.sentence("24: nothing can be undone then", () -> {
            GridRows x = Edges.busy();
            x.goBack(1);
            due("told(13)", x.told(13), 0);
            due("undo()", x.undo(), NOT);
            due("told(0)", x.told(0), 3);
        });
        Edges.sentence("24: What is so becomes IMAGE i (more than once)", () -> {
            GridRows x = Edges.busy();
            for (int round = 0; round < 3; round++) {
                due("goBack(1)", x.goBack(1), 1);
                int[] told = {3, 9, 6, 8, 1, 1, 4, 4};
                for (int what = 0; what < told.length; what++) {
                    due("told(" + what + ")", x.told(what), told[what]);
                }
                due("heard(0, 0)", x.heard(0, 0), 33);
                x.wipe();
                x.hear(round, round);
                x.hear(round, round);
            }
        });
    }
}
