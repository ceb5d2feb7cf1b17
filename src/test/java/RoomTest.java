import java.lang.management.ManagementFactory;

/**
 * All calls of one run live in one room, so what is made is made with the object: no call makes anything,
 * and an object is small enough that some hundreds of them find room.
 */
public final class RoomTest {
    /** 7.3 million fields and elements, shared by 500 objects, with four bytes to the least of them. */
    private static final long MOST_BYTES_OF_OBJECT = 7_300_000L / 500 * 4;
    /** What the machine makes for itself beside the calls; far below one byte a call. */
    private static final long MOST_BYTES_BESIDE = 4096;
    private static final int ROUNDS = 200, OBJECTS = 100;

    private static long sum = 0;

    private RoomTest() {
    }

    private static void changes(GridRows x, int round) {
        sum += x.code(1 + round % 3, 1 + round % 3, 3);
        sum += x.drift(20, 1 + round);
        for (int k = 0; k < 4; k++) {
            sum += x.send(k % 2, k) + x.hear(k, round % 99);
        }
        sum += x.send(0, 0) + x.hear(0, 0) + x.hear(100, 0);
        sum += x.end(round % 2) + x.undo() + x.keep(round % 2) + x.wipe() + x.goBack(round % 2);
    }

    private static void questions(GridRows x) {
        for (int what = -1; what <= 14; what++) {
            sum += x.told(what) + x.point(5, what) + x.next(1, 1, what);
            sum += x.sent(23, what) + x.heard(23, what) + x.nearest(23, what);
            sum += x.ahead(24, what) + x.decided(0, what) + x.sign(what);
            sum += x.member(3, what) + x.apart(3, what) + x.distance(3, what) + x.turned(what);
        }
        sum += x.cost();
    }

    private static void play(GridRows x) {
        for (int round = 0; round < ROUNDS; round++) {
            changes(x, round);
            questions(x);
        }
    }

    public static void main(String[] args) {
        if (!(ManagementFactory.getThreadMXBean() instanceof com.sun.management.ThreadMXBean meter)
            || !meter.isThreadAllocatedMemorySupported()) {
            System.out.println("this machine does not tell what is made");
            return;
        }
        long self = Thread.currentThread().getId();
        GridRows x = new GridRows();
        play(x);
        long before = meter.getThreadAllocatedBytes(self);
        play(x);
        long byCalls = meter.getThreadAllocatedBytes(self) - before;

        before = meter.getThreadAllocatedBytes(self);
        for (int i = 0; i < OBJECTS; i++) {
            sum += new GridRows().told(13);
        }
        long byObject = (meter.getThreadAllocatedBytes(self) - before) / OBJECTS;

        System.out.println("an object takes " + byObject + " bytes, its calls take " + byCalls + " more (" + sum + ")");
        if (byCalls > MOST_BYTES_BESIDE || byObject > MOST_BYTES_OF_OBJECT) {
            System.out.println("that is more than " + MOST_BYTES_OF_OBJECT + " and " + MOST_BYTES_BESIDE);
            System.exit(1);
        }
    }
}
