import java.util.ArrayList;
import java.util.List;
import java.util.function.Supplier;

/**
 * What the tests of boundary cases share. A test is one sentence of the document with calls of its own;
 * a refusal is looked at on an object beside a twin that was made alike and was not asked.
 */
final class Edges {
    static final int NONE = -1, NEVER = 99999999;
    static final int UNKNOWN = -1000000001, OUTSIDE = -1000000002, NOT = -1000000003, FULL = -1000000004;
    static final int LEAST = Integer.MIN_VALUE, MOST = Integer.MAX_VALUE;

    private static final int WHATS_TOLD = 14, MOST_UNDONE = 8;
    /** A place HEARD at -99 is the least answer that is no refusal. */
    private static final int LEAST_ANSWER = -99;

    interface Call {
        int on(GridRows x);
    }

    interface CallOf {
        int on(GridRows x, int n);
    }

    private static String words = "";
    private static int sentences = 0;
    private static int broken = 0;
    private static boolean holds = true;

    private Edges() {
    }

    static void sentence(String itsWords, Runnable test) {
        words = itsWords;
        holds = true;
        sentences++;
        test.run();
        if (!holds) {
            broken++;
        }
    }

    static void due(String call, int got, int want) {
        if (got != want) {
            holds = false;
            System.out.println("\"" + words + "\": " + call + " answered " + got + ", due is " + want);
        }
    }

    static void endOfTests() {
        System.out.println(sentences + " sentences, " + broken + " do not hold");
        if (broken != 0) {
            System.exit(1);
        }
    }

    /** The call is refused so, and afterwards the object answers, is undone and goes back as its twin does. */
    static void refused(String call, int refusal, Supplier<GridRows> maker, Call refusedCall) {
        due(call, refusedCall.on(maker.get()), refusal);
        for (int way = -2; way <= MOST_UNDONE; way++) {
            GridRows asked = maker.get();
            GridRows twin = maker.get();
            refusedCall.on(asked);
            List<Integer> after = wayBack(asked, way);
            after.addAll(view(asked));
            List<Integer> unasked = wayBack(twin, way);
            unasked.addAll(view(twin));
            due(call + " leaves all as it was (way " + way + ")", after.equals(unasked) ? 1 : 0, 1);
        }
    }

    /** Ways -2 and -1 go back to an image; others undo so often. */
    private static List<Integer> wayBack(GridRows x, int way) {
        List<Integer> answers = new ArrayList<>();
        if (way < 0) {
            answers.add(x.goBack(way + 2));
        }
        for (int k = 0; k < way; k++) {
            answers.add(x.undo());
        }
        return answers;
    }

    private static List<Integer> view(GridRows x) {
        List<Integer> seen = new ArrayList<>();
        for (int what = 0; what < WHATS_TOLD; what++) {
            seen.add(x.told(what));
        }
        for (int k = 0; k < x.told(4); k++) {
            for (int what = 0; what < 4; what++) {
                seen.add(x.sent(k, what));
            }
        }
        for (int k = 0; k < x.told(5); k++) {
            seen.add(x.heard(k, 0));
            seen.add(x.heard(k, 1));
        }
        return seen;
    }

    /** The least and the greatest number are taken; those beside them and the machine's own ends are refused. */
    static void bounds(String call, int least, int most, int refusal, Supplier<GridRows> maker, CallOf of) {
        due(call + " of the least, " + least + ", is taken", of.on(maker.get(), least) >= LEAST_ANSWER ? 1 : 0, 1);
        due(call + " of the greatest, " + most + ", is taken", of.on(maker.get(), most) >= LEAST_ANSWER ? 1 : 0, 1);
        int[] beside = {least - 1, most + 1, LEAST, MOST};
        for (int n : beside) {
            refused(call + " of " + n, refusal, maker, x -> of.on(x, n));
        }
    }

    /** Image 1 was kept, image 0 was not; seven calls can be undone; two STATES, SENT 2, HEARD 3, END 1. */
    static GridRows busy() {
        GridRows x = new GridRows();
        x.code(3, 9, 6);
        x.send(1, 1);
        x.hear(33, -44);
        x.end(4);
        x.keep(1);
        x.code(1, 1, 2);
        x.send(1, 3);
        x.send(0, 1);
        x.hear(4, 5);
        x.hear(6, 7);
        x.hear(8, 9);
        x.end(1);
        return x;
    }

    /** As many SENT and HEARD as there is room for; nine calls were made, so that the oldest one is lost. */
    static GridRows full() {
        GridRows x = new GridRows();
        x.drift(17, 4711);
        x.keep(0);
        x.drift(3, 5);
        for (int k = 0; k < 4; k++) {
            x.send(k % 2, k);
            x.hear(9 * k, -9 * k);
        }
        return x;
    }

    /** So many places HEARD, one beside the other. */
    static GridRows hearing(int count) {
        GridRows x = new GridRows();
        for (int k = 0; k < count; k++) {
            x.hear(7 * k - 80, 60 - 5 * k);
        }
        return x;
    }

    static GridRows sending(int count) {
        GridRows x = new GridRows();
        for (int k = 0; k < count; k++) {
            x.send(k % 3 % 2, k % 4);
        }
        return x;
    }

    static GridRows coded(int m, int g, int h) {
        GridRows x = new GridRows();
        x.code(m, g, h);
        return x;
    }
}
