import java.util.ArrayList;
import java.util.List;

/**
 * Each refusal of each call, in the order that the call's words name them, and that a refused call
 * changes nothing: two objects are led alike, one is refused, and then both are looked at from all
 * sides and must answer alike.
 */
public final class RefusalsTest {
    private static final Check CHECK = new Check("RefusalsTest");
    private static final long NO = -4611686018427387904L;
    private static final String TAIL = ";crowds 0;minds 0;";

    /** Where an object is led to before a call is refused. */
    private enum State { EMPTY, USED, FULL }

    public static void main(String[] args) {
        ofThings();
        ofTexts();
        ofDays();
        ofMeeting();
        ofShifting();
        ofDiaries();
        ofSheets();
        ofThingsBySheets();
        whereAllIsFull();
        whereNothingIs();
        whatOnlyTells();
        CHECK.end();
    }

    private static Run led(State state) {
        switch (state) {
            case USED:
                return used();
            case FULL:
                return full();
            default:
                return run();
        }
    }

    private static Run run() {
        return new Run(CHECK, "Refusals: the first that the call's words name; they change nothing");
    }

    /** Something of all that an object holds: sheets 0 to 2 of each sort, sheet 3 is missing. */
    private static Run used() {
        return run()
                .make("thing(1, 2, 905)", "thing(3, 1, 1403)", "set(0, 0, 66)", "image()", "thing(2, 0, 700)",
                        "set(3, 0, 7)", "set(0, 0, 65)")
                .rule("costs many+2;crowds 9;minds rest;")
                .feed("costs 7;crowds 8;minds 9")
                .lay(0, 0, 3, 5, 9)
                .lay(1, 1, 0, 12, 300)
                .lay(2, 2, 1, 2, 399);
    }

    /** Six things, six texts, a full tape. */
    private static Run full() {
        Run run = run();
        for (int i = 0; i < 6; i++) {
            run.make("thing(" + i + ", " + i + ", " + (500 + 101 * i) + ")");
        }
        for (int i = 1; i <= 5; i++) {
            run.text("costs " + i + TAIL, i);
        }
        run.make("set(0, 0, 9)", "force(3)", "image()");
        return run.feed(" ".repeat(160));
    }

    private static void refused(State state, long want, String... calls) {
        for (String call : calls) {
            led(state).due(call, want);
            changesNothing(state, call);
        }
    }

    private static void changesNothing(State state, String call) {
        Run one = led(state);
        Run other = led(state);
        one.make(call);
        one.holds(call + " changes nothing", seen(one).equals(seen(other)));
        if (state == State.USED) {
            one.items(0, 3, 0, 3, 5, 9).items(1, 3, 1, 0, 12, 300).items(2, 3, 2, 1, 2, 399);
        }
    }

    /** All that an object tells, least changing first. */
    private static List<Long> seen(Run run) {
        List<Long> seen = new ArrayList<>();
        for (int what = 0; what <= 4; what++) {
            seen.add(run.answer("count(" + what + ")"));
        }
        for (int what = 0; what <= 8; what++) {
            seen.add(run.answer("year(" + what + ")"));
        }
        for (int thing = 0; thing < 6; thing++) {
            for (int what = 0; what <= 3; what++) {
                seen.add(run.answer("told(" + thing + ", " + what + ")"));
            }
        }
        for (int sheet = 0; sheet <= 3; sheet++) {
            seenOfASheet(run, seen, sheet);
        }
        seen.add(run.answer("goodShift(0, 1)"));
        seen.add(run.answer("text()"));
        for (int text = 0; text < 6; text++) {
            seen.add(run.answer("force(" + text + ")"));
            seen.add(run.answer("day(7, 1)"));
        }
        seen.add(run.answer("back()"));
        seen.add(run.answer("count(1)"));
        seen.add(run.answer("count(4)"));
        seen.add(run.answer("told(0, 3)"));
        return seen;
    }

    private static void seenOfASheet(Run run, List<Long> seen, int sheet) {
        seen.add(run.answer("diary(" + sheet + ", 0, 0)"));
        seen.add(run.answer("rounds(" + sheet + ", 0)"));
        seen.add(run.answer("rounds(" + sheet + ", 1)"));
        for (int n = 0; n <= 4; n++) {
            seen.add(run.answer("copy(" + sheet + ", 0, " + sheet + ", 0, " + n + ")"));
        }
        for (int sort = 0; sort <= 2; sort++) {
            seen.add(run.answer("things(" + sheet + ", " + sort + ", 0, 0)"));
        }
    }

    private static void ofThings() {
        refused(State.USED, -2, "set(-1, 0, 1)", "set(4, 0, 1)", "set(0, 0, -1)", "set(0, 0, 128)", "set(1, 3, 1)",
                "set(1, -1, 1)", "set(1, 0, -1)", "set(1, 0, 10)", "set(2, 3, 1)", "set(2, 0, 0)", "set(2, 0, 61)",
                "set(3, 3, 1)", "set(3, 0, -1)", "set(3, 0, 60)", "set(MIN, MIN, MIN)", "set(MAX, MAX, MAX)");
        refused(State.USED, -2, "thing(-1, 0, 100)", "thing(6, 0, 100)", "thing(0, -1, 100)", "thing(0, 10, 100)",
                "thing(0, 0, 99)", "thing(0, 0, 160)", "thing(0, 0, 6100)", "thing(0, 0, -1)", "thing(MIN, MIN, MIN)",
                "thing(MAX, MAX, MAX)");
        refused(State.USED, -2, "told(3, 0)", "told(-1, 0)", "told(0, 4)", "told(0, -1)", "told(MAX, MAX)");
    }

    private static void ofTexts() {
        refused(State.USED, -2, "feed(-1)", "feed(256)", "feed(MIN)", "feed(MAX)");
        refused(State.USED, -2, "force(-1)", "force(2)", "force(6)", "force(MIN)", "force(MAX)");
    }

    private static void ofDays() {
        refused(State.USED, -2, "day(-1, 0)", "day(400, 0)", "day(0, -1)", "day(0, 3)", "day(MIN, MAX)", "when(3, 0)",
                "when(-1, 0)", "when(0, -1)", "when(0, 400)", "often(3, 0)", "often(-1, 0)", "often(0, -1)",
                "often(0, 401)", "year(-1)", "year(9)");
        refused(State.USED, -1, "when(0, 399)");
    }

    private static void ofMeeting() {
        refused(State.USED, NO, "meet(8)", "meet(-1)", "meet(MIN)", "every(8)", "every(-1)", "every(MAX)", "full(-1)",
                "full(2)");
        refused(State.USED, -2, "why(8)", "why(-1)", "why(MIN)");
        refused(State.USED, NO, "meet(6)", "every(6)");
        refused(State.USED, 12, "why(6)");
    }

    private static void ofShifting() {
        refused(State.USED, -2, "shift(-1)", "shift(3)", "shift(MIN)", "join(0, 0)", "join(0, 3)", "join(3, 0)",
                "join(-1, 0)", "join(0, -1)", "join(3, 3)", "goodShift(3, 0)", "goodShift(-1, 0)", "goodShift(0, -1)",
                "goodShift(0, 2)", "goodShift(MAX, MIN)");
        refused(State.USED, -1, "shift(0)", "shift(2)");
    }

    private static void ofDiaries() {
        refused(State.USED, -2, "diary(-1, 0, 0)", "diary(4, 0, 0)", "diary(0, 2, 0)", "diary(0, -1, 0)", "diary(0, 1, 3)",
                "diary(3, 2, 0)", "diary(3, 1, 3)", "diary(4, 0, 0)");
        refused(State.USED, -11, "diary(3, 0, 0)", "diary(3, 1, 0)");
        refused(State.USED, NO, "rounds(-1, 0)", "rounds(4, 0)", "rounds(0, -1)", "rounds(0, 2)", "rounds(3, 0)");
        refused(State.USED, -2, "film(-1, 0, 1)", "film(4, 0, 1)", "film(0, -1, 1)", "film(0, 3, 1)", "film(0, 0, 0)",
                "film(0, 0, 21)", "film(3, 0, 0)", "film(3, 3, 5)", "film(3, 0, MAX)");
        refused(State.USED, NO, "chance(0, 0, 0)", "chance(0, 21, 0)", "chance(0, 1, -1)", "chance(0, 1, 2)",
                "chance(MIN, MIN, MIN)");
        refused(State.USED, -2, "count(-1)", "count(5)", "count(MIN)");
    }

    private static void ofSheets() {
        refused(State.USED, -2, "sheet(-1, 0, 1)", "sheet(4, 0, 1)", "sheet(0, -2, 1)", "sheet(0, 3, 1)", "sheet(0, 0, 41)",
                "sheet(0, 1, MAX)", "sheet(4, 0, -1)", "sheet(0, 3, -1)", "sheet(3, 3, 1)", "sheet(4, -1, 0)");
        refused(State.USED, -14, "sheet(0, 0, -1)", "sheet(1, 2, MIN)", "sheet(3, 1, -1)");
        refused(State.USED, -2, "cell(-1, 0, 7)", "cell(4, 0, 7)", "cell(4, -1, 7)");
        refused(State.USED, -11, "cell(3, 0, 7)", "cell(3, -1, 7)");
        refused(State.USED, -12, "cell(0, -1, 7)", "cell(0, 3, 7)", "cell(1, MIN, 7)", "cell(2, MAX, 7)");
        refused(State.USED, -2, "copy(-1, 0, 0, 0, 1)", "copy(0, 0, 4, 0, 1)", "copy(3, 0, 4, 0, 1)", "copy(4, 0, 3, 0, 1)");
        refused(State.USED, -11, "copy(3, 0, 0, 0, 1)", "copy(0, 0, 3, 0, 1)", "copy(3, 0, 3, 0, 0)", "copy(0, 9, 3, 0, -1)");
        refused(State.USED, -13, "copy(0, 0, 1, 0, 1)", "copy(1, 0, 2, 0, 1)", "copy(2, 0, 0, 9, 1)", "copy(0, 0, 1, 0, -1)");
        refused(State.USED, -12, "copy(0, 1, 0, 0, 3)", "copy(0, 0, 0, 1, 3)", "copy(1, 0, 1, 0, -1)", "copy(2, -1, 2, 0, 1)",
                "copy(2, 0, 2, -1, 2)", "copy(0, 2, 0, 1, MAX)");
    }

    private static void ofThingsBySheets() {
        refused(State.USED, -2, "things(-1, 0, 0, 1)", "things(4, 0, 0, 1)", "things(0, -1, 0, 1)", "things(0, 3, 0, 1)",
                "things(0, 0, 0, -1)", "things(0, 0, 0, 7)", "things(3, 3, 0, 1)", "things(0, 1, 0, 7)");
        refused(State.USED, -13, "things(0, 1, 0, 1)", "things(1, 2, 0, 1)", "things(2, 0, -1, 1)");
        refused(State.USED, -11, "things(3, 0, 0, 1)", "things(3, 2, -1, 6)");
        refused(State.USED, -12, "things(0, 0, 1, 1)", "things(0, 0, -1, 1)", "things(2, 2, MAX, 1)");
        refused(State.USED, -2, "taken(0, -1)", "taken(0, 6)", "taken(3, 6)");
        refused(State.USED, -11, "taken(3, 0)", "taken(-1, 0)");
        refused(State.USED, -13, "taken(0, 2)", "taken(2, 1)");
    }

    private static void whereAllIsFull() {
        refused(State.FULL, -4, "thing(0, 0, 100)", "thing(5, 9, 6059)", "feed(0)", "feed(255)", "feed(59)", "text()");
        refused(State.FULL, -2, "thing(6, 0, 100)", "thing(0, 10, 100)", "thing(0, 0, 99)", "feed(-1)", "feed(256)",
                "force(6)", "set(1, 6, 1)", "told(6, 0)");
        refused(State.FULL, NO, "meet(64)", "every(127)");
        refused(State.FULL, -2, "why(64)");
    }

    private static void whereNothingIs() {
        refused(State.EMPTY, -3, "back()");
        refused(State.EMPTY, -2, "told(0, 0)", "set(1, 0, 1)", "set(2, 0, 1)", "set(3, 0, 1)", "force(1)", "when(0, 0)",
                "often(0, 0)", "why(1)", "shift(0)", "join(0, 1)", "goodShift(0, 0)", "diary(0, 1, 0)",
                "film(0, 0, 1)");
        refused(State.EMPTY, NO, "meet(1)", "every(1)", "rounds(0, 0)");
        refused(State.EMPTY, -11, "diary(0, 0, 0)", "cell(0, 0, 0)", "copy(0, 0, 1, 0, 0)", "things(0, 0, 0, 0)",
                "taken(0, 0)");
    }

    /** Calls that are not refused but only tell something. */
    private static void whatOnlyTells() {
        String[] calls = {"told(0, 2)", "day(7, 0)", "day(7, 1)", "day(7, 2)", "when(2, 0)", "often(2, 400)",
            "year(0)", "year(3)", "year(5)", "year(8)", "meet(7)", "meet(3)", "every(3)", "why(7)", "full(0)",
            "full(1)", "shift(1)", "join(0, 2)", "join(2, 0)", "goodShift(0, 0)", "goodShift(2, 1)",
            "diary(0, 0, 0)", "diary(1, 1, 2)", "rounds(0, 0)", "rounds(2, 1)", "drawn(5)", "drawn(-1)",
            "chance(9, 20, 0)", "chance(9, 20, 1)", "count(0)", "taken(1, 1)", "copy(1, 2, 1, 3, 0)",
            "copy(2, 0, 2, 0, 3)", "things(0, 0, 0, 0)", "things(0, 0, 0, 1)", "sheet(3, -1, 5)", "set(0, 9, 65)",
            "set(3, 0, 7)", "force(1)"};
        for (String call : calls) {
            changesNothing(State.USED, call);
        }
    }
}
