/** Promises 8 to 11: day, when, often, year; and on which days each kind comes. */
public final class DaysTest {
    private static final Check CHECK = new Check("DaysTest");

    public static void main(String[] args) {
        aThingComes();
        aLastingComes();
        aPutOffComes();
        aDoubleComes();
        aSkippedComes();
        aFixedComes();
        whatKindsSpend();
        crowdsCostBeside();
        holidaysAreTold();
        dayRefuses();
        whenFinds();
        oftenCounts();
        theYear();
        theEmptyYear();
        ofLikeOnesTheFirst();
        theWeeksEndAhead();
        yearRefuses();
        CHECK.end();
    }

    /** The thing comes on just these days, of all up to the last. */
    private static void comes(EveryNinth x, String what, int... days) {
        int at = 0;
        for (int day = 0; day <= days[days.length - 1]; day++) {
            boolean due = days[at] == day;
            CHECK.due(what + ": day(" + day + ", 0)", x.day(day, 0), due ? 1 : 0);
            at += due ? 1 : 0;
        }
    }

    private static EveryNinth one(int kind, int number, int what, int holidays) {
        EveryNinth x = new EveryNinth();
        x.thing(kind, number, what);
        x.set(0, 0, holidays);
        return x;
    }

    private static void aThingComes() {
        comes(one(0, 9, 905, 0), "thing", 5, 14, 23, 32, 41);
        comes(one(0, 9, 905, 127), "thing on holidays", 5, 14, 23);
        comes(one(0, 0, 6059, 0), "a late thing", 59, 119, 179, 239, 299, 359);
        comes(one(0, 0, 100, 0), "daily", 0, 1, 2, 3);
        CHECK.due("the last day of a daily one", one(0, 0, 100, 0).day(399, 0), 1);
    }

    private static void aLastingComes() {
        comes(one(1, 0, 905, 0), "lasting 0", 5, 14, 23);
        comes(one(1, 2, 905, 0), "lasting 2", 5, 6, 7, 14, 15, 16, 23);
        comes(one(1, 9, 2003, 127), "lasting 9", 3, 4, 5, 6, 7, 8, 9, 10, 11, 12, 23, 24);
        comes(one(1, 9, 404, 0), "lasting past its period", 4, 5, 6, 7, 8, 9, 10, 11, 12, 13, 14);
        comes(one(1, 2, 300, 0), "lasting as long as its period", 0, 1, 2, 3, 4, 5, 6);
        comes(one(1, 1, 300, 0), "lasting less", 0, 1, 3, 4, 6, 7);
        comes(one(1, 0, 103, 0), "lasting, daily", 3, 4, 5, 6);
    }

    private static void aPutOffComes() {
        comes(one(2, 9, 905, 0), "put off by nothing", 5, 14, 23);
        // holidays 0, 6 modulo 7
        comes(one(2, 0, 700, 65), "put off by one", 1, 8, 15, 22);
        comes(one(2, 0, 706, 65), "put off by two", 8, 15, 22);
        comes(one(2, 0, 705, 65), "put off by none", 5, 12, 19);
        // all but day 3 modulo 7: six holidays ahead
        comes(one(2, 0, 704, 119), "put off by six", 10, 17, 24);
        comes(one(2, 0, 100, 119), "daily, put off to one day", 3, 10, 17);
        comes(one(2, 0, 703, 119), "put off to itself", 3, 10, 17);
        // holidays 1: 11 = 4 + 7 is no holiday, 8 is put off to 9
        comes(one(2, 0, 402, 2), "put off now and then", 2, 6, 10, 14, 18, 23, 26);
        EveryNinth never = one(2, 0, 100, 127);
        CHECK.due("often of what is always put off", never.often(0, 400), 0);
        CHECK.due("put off to the last day", one(2, 0, 6038, 1 << 6).day(399, 0), 1);
        // 399 is 0 modulo 7: the last round is put off behind the year
        EveryNinth late = one(2, 0, 4039, 1);
        CHECK.due("day 399", late.day(399, 0), 0);
        CHECK.due("day 398", late.day(398, 0), 0);
        CHECK.due("how often", late.often(0, 400), 9);
    }

    private static void aDoubleComes() {
        comes(one(3, 0, 905, 0), "double 0", 4, 5, 13, 14, 22, 23);
        comes(one(3, 1, 2110, 127), "double 1", 9, 10, 11, 30, 31, 32);
        comes(one(3, 0, 1000, 0), "double from day 0", 0, 9, 10, 19, 20);
        comes(one(3, 1, 300, 0), "double without a rest", 0, 1, 2, 3, 4, 5);
        EveryNinth edge = one(3, 0, 4000, 0);
        CHECK.due("the day ahead of day 400", edge.day(399, 0), 1);
        CHECK.due("two days ahead of it", edge.day(398, 0), 0);
    }

    private static void aSkippedComes() {
        comes(one(4, 9, 905, 0), "skipped never", 5, 14, 23);
        comes(one(4, 0, 1206, 65), "skipped on 6, 42", 18, 30, 54, 66, 78);
        CHECK.due("often of what is always skipped", one(4, 0, 700, 1).often(0, 400), 0);
        CHECK.due("often of what is never skipped", one(4, 0, 700, 126).often(0, 400), 58);
    }

    private static void aFixedComes() {
        comes(one(5, 4, 6000, 127), "fixed", 0, 4, 34, 60, 64, 94, 120, 124);
        comes(one(5, 9, 6039, 0), "fixed ahead of its begin", 9, 39, 69, 99);
        comes(one(5, 0, 6059, 0), "fixed at 0", 0, 30, 59, 60, 90, 119, 120);
        CHECK.due("day 399 is 9 modulo 30", one(5, 9, 6000, 0).day(399, 0), 1);
    }

    private static void spends(int kind, int number, int v, int want) {
        EveryNinth x = one(kind, number, 6010, 0);
        Check.read(x, "costs " + v + ";crowds 50;minds 50;");
        x.force(1);
        CHECK.due("kind " + kind + ", number " + number + " spends by " + v, x.day(10, 1), want);
    }

    private static void whatKindsSpend() {
        spends(0, 9, 17, 17);
        spends(0, 0, 0, 0);
        spends(1, 0, 17, 17);
        spends(1, 1, 17, 8);
        spends(1, 4, 17, 3);
        spends(1, 9, 17, 1);
        spends(1, 9, 9, 1);
        spends(1, 0, 0, 1);
        spends(2, 9, 17, 18);
        spends(2, 0, 0, 1);
        spends(2, 0, 99, 100);
        spends(3, 0, 17, 34);
        spends(3, 1, 17, 16);
        spends(3, 9, 9, 2);
        spends(3, 0, 0, 2);
        spends(3, 0, 99, 198);
        spends(4, 9, 17, 18);
        spends(4, 0, 0, 1);
        spends(5, 9, 17, 17);
        spends(5, 0, 0, 0);
    }

    private static void crowdsCostBeside() {
        EveryNinth x = new EveryNinth();
        x.thing(0, 0, 200);
        x.thing(0, 0, 300);
        x.thing(0, 0, 500);
        CHECK.due("three: 3 and 9", x.day(30, 1), 12);
        CHECK.due("two: 2 and 4", x.day(6, 1), 6);
        CHECK.due("one alone", x.day(2, 1), 1);
        CHECK.due("none", x.day(7, 1), 0);
        CHECK.due("who", x.day(30, 0), 7);
        CHECK.due("who", x.day(10, 0), 5);
        Check.read(x, "costs 7;crowds 40;minds 0;");
        x.force(1);
        CHECK.due("none", x.day(7, 1), 0);
        CHECK.due("one alone", x.day(2, 1), 7);
        CHECK.due("two", x.day(6, 1), 54);
    }

    private static void holidaysAreTold() {
        for (int d = 0; d < 7; d++) {
            EveryNinth x = new EveryNinth();
            x.set(0, 0, 1 << d);
            for (int day = 0; day < 400; day++) {
                CHECK.due("day(" + day + ", 2)", x.day(day, 2), day % 7 == d ? 1 : 0);
            }
        }
    }

    private static void dayRefuses() {
        EveryNinth x = one(0, 0, 100, 127);
        int[][] bad = {{-1, 0}, {400, 0}, {0, -1}, {0, 3}, {Integer.MAX_VALUE, 2}, {Integer.MIN_VALUE, 2}, {400, 2}};
        for (int[] b : bad) {
            CHECK.due("day(" + b[0] + ", " + b[1] + ")", x.day(b[0], b[1]), -2);
        }
    }

    private static void whenFinds() {
        EveryNinth x = one(0, 0, 905, 0);
        CHECK.due("when(0, 0)", x.when(0, 0), 5);
        CHECK.due("when(0, 5): from that day on", x.when(0, 5), 5);
        CHECK.due("when(0, 6)", x.when(0, 6), 14);
        CHECK.due("when(0, 392)", x.when(0, 392), 392);
        CHECK.due("when(0, 393)", x.when(0, 393), -1);
        CHECK.due("when(0, 399)", x.when(0, 399), -1);
        CHECK.due("when(1, 0)", x.when(1, 0), -2);
        CHECK.due("when(-1, 0)", x.when(-1, 0), -2);
        CHECK.due("when(MAX, 0)", x.when(Integer.MAX_VALUE, 0), -2);
        CHECK.due("when(0, -1)", x.when(0, -1), -2);
        CHECK.due("when(0, 400)", x.when(0, 400), -2);
        CHECK.due("when(0, MIN)", x.when(0, Integer.MIN_VALUE), -2);
        x.set(2, 0, 7);
        CHECK.due("when(0, 399)", x.when(0, 399), -1);
        x.set(3, 0, 0);
        CHECK.due("when(0, 399): the last day", x.when(0, 399), 399);
        EveryNinth never = one(2, 0, 100, 127);
        CHECK.due("when(0, 0) of what never comes", never.when(0, 0), -1);
        EveryNinth behind = one(0, 0, 4000, 0);
        CHECK.due("when(0, 0): day 0", behind.when(0, 0), 0);
        CHECK.due("when(0, 361): day 400 is behind the year", behind.when(0, 361), -1);
    }

    private static void oftenCounts() {
        EveryNinth x = one(0, 0, 905, 0);
        CHECK.due("often(0, 0)", x.often(0, 0), 0);
        CHECK.due("often(0, 5)", x.often(0, 5), 0);
        CHECK.due("often(0, 6)", x.often(0, 6), 1);
        CHECK.due("often(0, 14)", x.often(0, 14), 1);
        CHECK.due("often(0, 15)", x.often(0, 15), 2);
        CHECK.due("often(0, 400)", x.often(0, 400), 44);
        CHECK.due("often(0, 401)", x.often(0, 401), -2);
        CHECK.due("often(0, -1)", x.often(0, -1), -2);
        CHECK.due("often(0, MIN)", x.often(0, Integer.MIN_VALUE), -2);
        CHECK.due("often(1, 0)", x.often(1, 0), -2);
        CHECK.due("often(-1, 0)", x.often(-1, 0), -2);
        CHECK.due("often(MIN, 0)", x.often(Integer.MIN_VALUE, 0), -2);
    }

    private static void years(String what, EveryNinth x, int... want) {
        for (int i = 0; i < want.length; i++) {
            CHECK.due(what + ": year(" + i + ")", x.year(i), want[i]);
        }
    }

    private static void theYear() {
        EveryNinth x = new EveryNinth();
        x.thing(0, 0, 4010);
        x.thing(0, 0, 6010);
        // 10, 50, 90, .. 370 and 10, 70, 130, .. 370; together on 10, 130, 250, 370
        years("two things", x, 9 + 4 * 6, 13, 4, 39, 11, 1, 2, 10, 6);
        Check.read(x, "costs rest;crowds 0;minds 0;");
        x.force(1);
        // rests ahead: 10 (of two), then three times 39, 19, 19, 39 (of two)
        years("by rests", x, 20 + 3 * (39 + 19 + 19 + 78), 13, 4, 39, 11, 1, 2, 130, 78);
        years("one that lasts", one(1, 6, 1402, 0), 202, 202, 0, 7, 9, 0, 5, 2, 1);
    }

    private static void theEmptyYear() {
        years("no things", new EveryNinth(), 0, 0, 0, 400, 0, 0, 0, 0, 0);
        years("what never comes", one(4, 0, 100, 127), 0, 0, 0, 400, 0, 0, 0, 0, 0);
        years("daily", one(0, 0, 100, 127), 400, 400, 0, 0, -1, 0, 7, 0, 1);
        EveryNinth free = one(0, 0, 6003, 0);
        Check.read(free, "costs 0;crowds 0;minds 0;");
        free.force(1);
        years("what costs nothing", free, 0, 7, 0, 59, 4, 0, 1, 0, 0);
    }

    private static void ofLikeOnesTheFirst() {
        years("every 50th", one(0, 0, 5025, 0), 8, 8, 0, 49, 26, 3, 1, 25, 1);
        EveryNinth x = one(0, 0, 6059, 0);
        CHECK.due("the first rest is as long as the others", x.year(3), 59);
        CHECK.due("of like ones the first", x.year(4), 0);
        x.set(3, 0, 0);
        CHECK.due("a later first", x.year(4), 1);
        EveryNinth short1 = one(0, 0, 200, 0);
        CHECK.due("a rest of one day", short1.year(3), 1);
        CHECK.due("the first of these", short1.year(4), 1);
        EveryNinth end = one(1, 9, 6051, 0);
        CHECK.due("first rest 0 .. 50", end.year(3), 51);
        end.thing(0, 0, 6020);
        end.thing(0, 0, 4030);
        CHECK.due("which come at 390", end.day(390, 0), 4);
    }

    private static void theWeeksEndAhead() {
        EveryNinth x = new EveryNinth();
        x.thing(0, 0, 5700);
        x.thing(0, 0, 5328);
        x.thing(0, 0, 5945);
        x.thing(0, 0, 4723);
        x.thing(0, 0, 4312);
        x.thing(0, 0, 6039);
        CHECK.due("all come on day 399, in no week", x.day(399, 0), 63);
        int most = 0;
        int fullest = 0;
        for (int week = 0; week <= 56; week++) {
            int many = 0;
            for (int day = 7 * week; day <= 7 * week + 6; day++) {
                many += Integer.bitCount(x.day(day, 0));
            }
            fullest = many > most ? week : fullest;
            most = Math.max(most, many);
        }
        CHECK.due("fullest week", x.year(5), fullest);
        CHECK.due("how many come in it", x.year(6), most);
        EveryNinth end = new EveryNinth();
        for (int number = 2; number <= 7; number++) {
            end.thing(5, number, 6038);
        }
        CHECK.due("week 56 is the fullest", end.year(5), 56);
        CHECK.due("how many come in it", end.year(6), 12);
    }

    private static void yearRefuses() {
        EveryNinth x = new EveryNinth();
        CHECK.due("year(-1)", x.year(-1), -2);
        CHECK.due("year(9)", x.year(9), -2);
        CHECK.due("year(MIN)", x.year(Integer.MIN_VALUE), -2);
        CHECK.due("year(MAX)", x.year(Integer.MAX_VALUE), -2);
    }
}
