import java.lang.management.ManagementFactory;

/** All calls of a run live in one room: an object is small, and calls make next to nothing. */
public final class RoomTest {
    // The room holds 7.3 million elements; a run has one object and 512 calls, so this is a small part of it.
    private static final long ROOM_OF_ONE = 32_000;
    private static final long ROOM_OF_CALLS = 100_000;

    private static final Checks c = new Checks("RoomTest");

    public static void main(String[] args) {
        com.sun.management.ThreadMXBean bean = (com.sun.management.ThreadMXBean) ManagementFactory.getThreadMXBean();
        // Once ahead, so that what the machine makes for itself at first is not counted.
        calls(Checks.laneOf("h93,w92,o91,y90,t99,h55"), 1);
        bean.getCurrentThreadAllocatedBytes();
        long before = bean.getCurrentThreadAllocatedBytes();
        ThatchLane x = new ThatchLane();
        long made = bean.getCurrentThreadAllocatedBytes() - before;
        c.holds("an object takes " + made + " bytes", made <= ROOM_OF_ONE && x.count(0) == 0);
        x = Checks.laneOf("h93,w92,o91,y90,t99,h55");
        before = bean.getCurrentThreadAllocatedBytes();
        calls(x, 46);
        long called = bean.getCurrentThreadAllocatedBytes() - before;
        System.out.println("RoomTest: an object takes " + made + " bytes, 506 calls take " + called);
        c.holds("506 calls took " + called + " bytes", called <= ROOM_OF_CALLS);
        c.end();
    }

    private static void calls(ThatchLane x, int times) {
        for (int time = 0; time < times; time++) {
            x.plan(4, 9, 13);
            x.patch(20, 30, 1);
            x.twos(15);
            x.odds(5, 7, 1);
            x.dry(5, 1);
            x.see(0, 1, 1);
            x.house(5, 6);
            x.ages(60, 1, 0);
            x.image();
            x.restore();
            x.digest();
        }
    }
}
