import java.lang.management.ManagementFactory;

/** All calls of a run live in one room: no call may make an object, and a new object stays small. */
public final class RoomTest {
    private static final Check CHECK = new Check("RoomTest");
    private static final com.sun.management.ThreadMXBean THREADS =
            (com.sun.management.ThreadMXBean) ManagementFactory.getThreadMXBean();

    public static void main(String[] args) {
        EveryNinth x = new EveryNinth();
        allCalls(x);
        measured(x);
        CHECK.holds("all calls together make nothing (bytes: " + measured(x) + ")", measured(x) < 4096);
        long before = THREADS.getCurrentThreadAllocatedBytes();
        EveryNinth[] many = new EveryNinth[100];
        for (int i = 0; i < many.length; i++) {
            many[i] = new EveryNinth();
        }
        long each = (THREADS.getCurrentThreadAllocatedBytes() - before) / many.length;
        CHECK.holds("a new object takes " + each + " bytes", each < 20_000);
        CHECK.end();
    }

    private static long measured(EveryNinth x) {
        long before = THREADS.getCurrentThreadAllocatedBytes();
        allCalls(x);
        return THREADS.getCurrentThreadAllocatedBytes() - before;
    }

    private static void allCalls(EveryNinth x) {
        x.image();
        x.thing(2, 1, 905);
        x.thing(3, 1, 1405);
        x.set(0, 0, 65);
        x.told(0, 1);
        Check.feedAll(x, "costs day + (1 or many) * 2 ; crowds not many ; minds - rest ;");
        x.text();
        x.force(1);
        x.day(14, 1);
        x.when(0, 7);
        x.often(1, 400);
        for (int what = 0; what < 9; what++) {
            x.year(what);
        }
        x.meet(3);
        x.every(3);
        x.why(3);
        x.full(0);
        x.shift(0);
        x.join(0, 1);
        x.goodShift(0, 0);
        x.film(0, 0, 20);
        x.diary(0, 0, 0);
        x.diary(0, 1, 1);
        x.rounds(0, 0);
        x.rounds(0, 1);
        x.drawn(7);
        x.chance(7, 20, 0);
        x.sheet(1, 1, 40);
        x.cell(1, 0, 5);
        x.copy(1, 0, 0, 0, 5);
        x.things(1, 1, 0, 6);
        x.taken(0, 0);
        x.back();
        x.count(0);
    }
}
