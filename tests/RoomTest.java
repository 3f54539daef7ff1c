import java.lang.management.ManagementFactory;

/**
 * All calls of a run live in one room of some 600,000 objects and 7.3 million fields and elements:
 * no call, made 512 times, may come near it. Bytes are what can be measured; a field takes four.
 */
public final class RoomTest {
    private static final long CALLS = 512;
    private static final long ROOM = 4 * 7_300_000L;
    private static final String[] DEAREST = {
        "set(0, 0, 65)", "told(0, 1)", "feed(32)", "text()", "force(1)", "day(14, 1)", "when(0, 7)",
        "often(1, 400)", "year(0)", "year(3)", "year(6)", "year(8)", "meet(3)", "every(3)", "why(3)", "full(0)",
        "shift(0)", "join(0, 1)", "goodShift(0, 0)", "film(0, 0, 20)", "diary(0, 0, 0)", "diary(0, 1, 1)",
        "rounds(0, 0)", "rounds(0, 1)", "drawn(7)", "chance(7, 20, 0)", "sheet(1, 1, 40)", "cell(1, 0, 5)",
        "copy(1, 0, 0, 0, 5)", "things(1, 1, 0, 6)", "taken(0, 0)", "image()", "back()", "count(0)"
    };

    private static final Check CHECK = new Check("RoomTest");
    private static final com.sun.management.ThreadMXBean THREADS =
            (com.sun.management.ThreadMXBean) ManagementFactory.getThreadMXBean();

    public static void main(String[] args) {
        aNewObject();
        for (String call : DEAREST) {
            aCall(call);
        }
        aTextOfAFullTape();
        CHECK.end();
    }

    private static long bytes() {
        return THREADS.getCurrentThreadAllocatedBytes();
    }

    private static void aNewObject() {
        long before = bytes();
        EveryNinth[] many = new EveryNinth[100];
        for (int i = 0; i < many.length; i++) {
            many[i] = new EveryNinth();
        }
        long each = (bytes() - before) / many.length;
        CHECK.holds("a new object takes " + each + " bytes", each < ROOM / 10);
    }

    /** What Run itself makes is counted with the call, which does no harm: it is little. */
    private static void aCall(String call) {
        Run run = new Run(CHECK, "All calls of one run live in ONE room")
                .make("thing(2, 1, 905)", "thing(3, 1, 1405)", "set(0, 0, 65)", "image()", "sheet(1, 1, 18)")
                .rule("costs day + (1 or many) * 2 ; crowds not many ; minds - rest ;")
                .feed("costs 1;crowds 1;minds 1")
                .lay(0, 1, 1, 2, 4, 8, 16);
        run.answer("taken(0, 0)");
        long before = bytes();
        run.answer(call);
        long took = (bytes() - before) * CALLS;
        CHECK.holds(CALLS + " times " + call + " takes " + took + " bytes", took < ROOM);
    }

    private static void aTextOfAFullTape() {
        EveryNinth x = new EveryNinth();
        Check.feedAll(x, "costs 1" + "+1".repeat(67) + ";crowds 0;minds 0;");
        long before = bytes();
        x.text();
        long took = (bytes() - before) * 5;
        CHECK.holds("the texts of a run take " + took + " bytes", took < ROOM);
    }
}
