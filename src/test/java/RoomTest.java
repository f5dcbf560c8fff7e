import java.lang.management.ManagementFactory;

/**
 * The room in which all calls of a run live: whatever is called, a run makes little more than the one row of
 * orders that a quilt of sixteen places needs. What is made is counted in bytes, as the machine tells it.
 */
public final class RoomTest {
    private static final int CALLS = 512;
    private static final long MOST_BYTES = 2L * 8 * (1 << 16);
    private static final Checks checks = new Checks();

    interface Run {
        void call(QuiltHouse house, int i);
    }

    public static void main(String[] args) {
        checks.promise(0, "the room");
        roomOf("orders of all sixteen", (house, i) -> house.grown());
        roomOf("orders of quilts that grow", RoomTest::growAndAsk);
        roomOf("images", (house, i) -> checks.due("image", i % 4 < 2 ? house.image(i % 2) : house.restore(i % 2), 1));
        roomOf("washing", (house, i) -> house.wash(i % 16, i % 2));
        roomOf("placings", RoomTest::place);
        roomOf("draws", (house, i) -> house.years(i, 99, i % 4));
        roomOf("whole, patch, parts", RoomTest::ask);
        roomOf("turning and laying", RoomTest::turnAndLay);
        checks.end();
    }

    private static void roomOf(String name, Run run) {
        everyCall(run);
        long before = bytes();
        everyCall(run);
        long made = bytes() - before;
        checks.fine(name + " made " + made + " bytes", made <= MOST_BYTES);
    }

    private static void everyCall(Run run) {
        QuiltHouse house = Checks.sewn(4, 4, "abcdabcdabcdabcd");
        for (int i = 0; i < CALLS; i++) {
            run.call(house, i);
        }
    }

    private static long bytes() {
        if (ManagementFactory.getThreadMXBean() instanceof com.sun.management.ThreadMXBean threads) {
            return threads.getThreadAllocatedBytes(Thread.currentThread().getId());
        }
        return 0;
    }

    private static void growAndAsk(QuiltHouse house, int i) {
        switch (i % 8) {
            case 0 -> house.quilt(1 + i / 8 % 4, 1 + i / 32 % 4);
            case 7 -> house.grown();
            default -> house.birth(i % 8 - 1, 0);
        }
    }

    private static void place(QuiltHouse house, int i) {
        if (i == 0) {
            house.quilt(3, 3);
            house.set(2, 0);
        }
        if (i % 2 == 0) {
            house.placings(2, 2, 2, 2);
        } else {
            house.placed(1, 2, 3, 2, i % 9);
        }
    }

    private static void ask(QuiltHouse house, int i) {
        switch (i % 4) {
            case 0 -> house.whole(i % 15);
            case 1 -> house.patch(i / 4 % 4, 0);
            case 2 -> house.parts();
            default -> house.pieces(-1);
        }
    }

    private static void turnAndLay(QuiltHouse house, int i) {
        switch (i % 3) {
            case 0 -> house.turn();
            case 1 -> house.say('a');
            default -> house.lay();
        }
    }
}
