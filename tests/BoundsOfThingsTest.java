/**
 * Each sentence that names a boundary case: days, holidays, things, and which days they come
 * (part 1 of the Terms, promises 1 to 4 and 8 to 10).
 */
public final class BoundsOfThingsTest {
    private static final Check CHECK = new Check("BoundsOfThingsTest");

    public static void main(String[] args) {
        theYearsDays();
        theYearsDaysForWhen();
        holidaysAreSevenBits();
        holidaysGoByTheWeek();
        noHolidaysAtFirst();
        sixThings();
        sixKinds();
        numbers();
        periods();
        begins();
        rounds();
        nothingComesAtFirst();
        setsWhat();
        setsOf();
        thingsWhat();
        toldsWhat();
        daysWhat();
        whenFromOneOn();
        oftenOfDays();
        callsUpTo512();
        CHECK.end();
    }

    private static Run run(String sentence) {
        return new Run(CHECK, sentence);
    }

    private static void theYearsDays() {
        run("THE YEAR: DAYS 0 .. 399")
                .make("thing(0, 0, 100)")
                .allDue(-2, "day(-1, 0)", "day(-1, 1)", "day(-1, 2)", "day(MIN, 0)")
                .allDue(1, "day(0, 0)", "day(0, 1)", "day(399, 0)", "day(399, 1)")
                .allDue(0, "day(0, 2)", "day(399, 2)")
                .allDue(-2, "day(400, 0)", "day(400, 1)", "day(400, 2)", "day(MAX, 0)");
    }

    private static void theYearsDaysForWhen() {
        run("The next DAY of THE YEAR, from one on: BAD")
                .make("thing(0, 0, 100)")
                .allDue(-2, "when(0, -1)", "when(0, MIN)", "when(0, 400)", "when(0, MAX)")
                .due("when(0, 0)", 0)
                .due("when(0, 399)", 399);
    }

    private static void holidaysAreSevenBits() {
        run("HOLIDAYS: a set (bits 0 .. 6)")
                .allDue(-2, "set(0, 0, -1)", "set(0, 0, MIN)", "set(0, 0, 128)", "set(0, 0, MAX)", "set(0, 0, 129)")
                .due("set(0, 0, 0)", 0)
                .due("set(0, 0, 127)", 0)
                .due("set(0, 0, 64)", 127)
                .due("count(1)", 64);
    }

    private static void holidaysGoByTheWeek() {
        run("a DAY is one, if that of (it modulo 7) is in it")
                .make("set(0, 0, 64)")
                .allDue(1, "day(6, 2)", "day(13, 2)", "day(398, 2)")
                .allDue(0, "day(0, 2)", "day(5, 2)", "day(7, 2)", "day(397, 2)", "day(399, 2)")
                .make("set(0, 0, 1)")
                .allDue(1, "day(0, 2)", "day(7, 2)", "day(399, 2)")
                .allDue(0, "day(1, 2)", "day(6, 2)", "day(8, 2)", "day(398, 2)")
                .make("set(0, 0, 127)")
                .allDue(1, "day(0, 2)", "day(3, 2)", "day(399, 2)");
    }

    private static void noHolidaysAtFirst() {
        Run run = run("HOLIDAYS (none at first)").due("count(1)", 0);
        for (int day = 0; day < 400; day++) {
            run.due("day(" + day + ", 2)", 0);
        }
    }

    private static void sixThings() {
        Run run = run("THINGS (6 at most, numbered from 0)");
        run.due("told(0, 0)", -2);
        for (int i = 0; i < 6; i++) {
            run.due("thing(" + i + ", 0, 100)", i);
        }
        run.due("thing(0, 0, 100)", -4)
                .due("count(0)", 6)
                .due("told(0, 0)", 0)
                .due("told(5, 0)", 5)
                .allDue(-2, "told(6, 0)", "told(-1, 0)", "told(MIN, 0)", "told(MAX, 0)");
    }

    private static void sixKinds() {
        run("THINGS have a KIND: 0 THING .. 5 FIXED")
                .allDue(-2, "thing(-1, 0, 100)", "thing(6, 0, 100)", "thing(MIN, 0, 100)", "thing(MAX, 0, 100)")
                .due("thing(0, 0, 100)", 0)
                .due("thing(5, 0, 100)", 1)
                .due("told(0, 0)", 0)
                .due("told(1, 0)", 5);
    }

    private static void numbers() {
        run("a NUMBER (0 .. 9)")
                .allDue(-2, "thing(0, -1, 100)", "thing(0, 10, 100)", "thing(0, MIN, 100)", "thing(0, MAX, 100)")
                .due("thing(0, 0, 100)", 0)
                .due("thing(0, 9, 100)", 1)
                .due("told(0, 1)", 0)
                .due("told(1, 1)", 9)
                .allDue(-2, "set(1, 0, -1)", "set(1, 0, 10)", "set(1, 0, MIN)", "set(1, 0, MAX)")
                .due("set(1, 0, 9)", 0)
                .due("set(1, 0, 0)", 9)
                .due("told(0, 1)", 0);
    }

    private static void periods() {
        run("a PERIOD (1 .. 60)")
                .allDue(-2, "thing(0, 0, 0)", "thing(0, 0, 59)", "thing(0, 0, 6100)", "thing(0, 0, 6159)")
                .due("thing(0, 0, 100)", 0)
                .due("thing(0, 0, 6000)", 1)
                .due("told(0, 2)", 1)
                .due("told(1, 2)", 60)
                .allDue(-2, "set(2, 0, 0)", "set(2, 0, -1)", "set(2, 0, 61)", "set(2, 0, MIN)", "set(2, 0, MAX)")
                .due("set(2, 0, 60)", 1)
                .due("set(2, 0, 1)", 60)
                .due("told(0, 2)", 1);
    }

    private static void begins() {
        run("BEGIN (0 .. 59)")
                .allDue(-2, "thing(0, 0, 160)", "thing(0, 0, 199)", "thing(0, 0, 6060)", "thing(0, 0, 6099)")
                .due("thing(0, 0, 200)", 0)
                .due("thing(0, 0, 159)", 1)
                .due("told(0, 3)", 0)
                .due("told(1, 3)", 59)
                .allDue(-2, "set(3, 0, -1)", "set(3, 0, 60)", "set(3, 0, MIN)", "set(3, 0, MAX)")
                .due("set(3, 0, 59)", 0)
                .due("set(3, 0, 0)", 59)
                .due("told(0, 3)", 0);
    }

    private static void rounds() {
        run("The ROUND of a THING: DAY BEGIN, and each DAY that is PERIOD behind one of it")
                .make("thing(0, 9, 2050)", "thing(0, 0, 159)", "thing(0, 0, 6039)", "thing(0, 0, 100)")
                .due("when(0, 0)", 50)
                .due("often(0, 400)", 18)
                .due("when(0, 51)", 70)
                .due("when(0, 391)", -1)
                .due("when(0, 390)", 390)
                .due("often(1, 59)", 0)
                .due("often(1, 400)", 341)
                .due("often(2, 400)", 7)
                .due("when(2, 340)", 399)
                .due("often(3, 400)", 400);
    }

    private static void nothingComesAtFirst() {
        Run run = run("EveryNinth(): Nothing comes round.")
                .allDue(0, "count(0)", "count(1)", "count(3)", "count(4)", "year(1)", "year(0)", "full(0)")
                .due("count(2)", 1)
                .due("year(3)", 400)
                .due("back()", -3)
                .allDue(-2, "told(0, 0)", "when(0, 0)", "often(0, 0)", "set(1, 0, 0)", "shift(0)", "join(0, 1)",
                        "goodShift(0, 0)", "film(0, 0, 1)", "why(1)")
                .due("taken(0, 0)", -11)
                .allDue(-11, "cell(0, 0, 0)", "cell(1, 0, 0)", "cell(2, 0, 0)", "cell(3, 0, 0)", "diary(0, 0, 0)")
                .due("text()", -100);
        for (int day = 0; day < 400; day += 7) {
            run.due("day(" + day + ", 0)", 0);
        }
        run.anew().make("thing(0, 0, 100)", "set(0, 0, 127)", "sheet(0, 0, 1)", "feed(32)", "image()");
        run.anew().allDue(0, "count(0)", "count(1)", "count(3)").due("back()", -3).due("cell(0, 0, 0)", -11);
    }

    private static void setsWhat() {
        run("set: HOLIDAYS (what 0), NUMBER (1), PERIOD (2), BEGIN (3) of a THING becomes v: what it was")
                .make("thing(3, 4, 1725)")
                .allDue(-2, "set(-1, 0, 5)", "set(4, 0, 5)", "set(MIN, 0, 5)", "set(MAX, 0, 5)")
                .due("set(0, 0, 5)", 0)
                .due("set(1, 0, 6)", 4)
                .due("set(2, 0, 7)", 17)
                .due("set(3, 0, 8)", 25)
                .due("told(0, 0)", 3)
                .due("told(0, 1)", 6)
                .due("told(0, 2)", 7)
                .due("told(0, 3)", 8)
                .due("count(1)", 5);
    }

    private static void setsOf() {
        run("set: HOLIDAYS (what 0; of does not matter)")
                .due("set(0, -1, 1)", 0)
                .due("set(0, 0, 2)", 1)
                .due("set(0, 6, 3)", 2)
                .due("set(0, MIN, 4)", 3)
                .due("set(0, MAX, 5)", 4)
                .due("count(1)", 5);
        run("set: NUMBER, PERIOD, BEGIN of a THING: BAD")
                .allDue(-2, "set(1, 0, 5)", "set(2, 0, 5)", "set(3, 0, 5)")
                .make("thing(0, 1, 202)", "thing(0, 3, 404)")
                .allDue(-2, "set(1, 2, 5)", "set(2, 2, 5)", "set(3, 2, 5)", "set(1, -1, 5)", "set(2, -1, 5)",
                        "set(3, -1, 5)", "set(1, MIN, 5)", "set(2, MAX, 5)", "set(3, 6, 5)")
                .due("set(1, 0, 5)", 1)
                .due("set(1, 1, 6)", 3)
                .due("set(2, 1, 7)", 4)
                .due("set(3, 1, 8)", 4)
                .due("told(0, 1)", 5)
                .due("told(0, 2)", 2)
                .due("told(0, 3)", 2)
                .make("thing(0, 0, 100)", "thing(0, 0, 100)", "thing(0, 0, 100)", "thing(0, 0, 100)")
                .due("set(1, 5, 9)", 0)
                .due("set(1, 6, 9)", -2);
    }

    private static void thingsWhat() {
        run("thing (what: 100 times PERIOD, and BEGIN)")
                .allDue(-2, "thing(0, 0, -1)", "thing(0, 0, -100)", "thing(0, 0, -101)", "thing(0, 0, -6059)",
                        "thing(0, 0, MIN)", "thing(0, 0, MAX)", "thing(0, 0, 0)", "thing(0, 0, 99)",
                        "thing(0, 0, 160)", "thing(0, 0, 6060)", "thing(0, 0, 6100)")
                .due("thing(0, 0, 100)", 0)
                .due("thing(0, 0, 6059)", 1)
                .due("thing(0, 0, 159)", 2)
                .due("thing(0, 0, 200)", 3)
                .due("told(1, 2)", 60)
                .due("told(1, 3)", 59);
    }

    private static void toldsWhat() {
        run("told: 0 KIND, 1 NUMBER, 2 PERIOD, 3 BEGIN. BAD.")
                .make("thing(5, 9, 6059)")
                .allDue(-2, "told(0, -1)", "told(0, 4)", "told(0, MIN)", "told(0, MAX)", "told(1, 0)", "told(-1, 0)",
                        "told(6, 3)", "told(MIN, 0)", "told(MAX, 3)")
                .due("told(0, 0)", 5)
                .due("told(0, 1)", 9)
                .due("told(0, 2)", 60)
                .due("told(0, 3)", 59);
    }

    private static void daysWhat() {
        run("day: which COME (what 0; bits), what it costs (1), whether it is a HOLIDAY (2). BAD.")
                .make("set(0, 0, 127)")
                .allDue(0, "day(9, 0)", "day(9, 1)")
                .make("thing(0, 0, 1109)", "thing(0, 0, 1209)", "thing(0, 0, 1309)", "thing(0, 0, 1409)",
                        "thing(0, 0, 1509)", "thing(0, 0, 1609)")
                .allDue(-2, "day(9, -1)", "day(9, 3)", "day(9, MIN)", "day(9, MAX)", "day(-1, 3)", "day(400, -1)")
                .due("day(9, 0)", 63)
                .due("day(9, 1)", 42)
                .due("day(9, 2)", 1)
                .due("day(20, 0)", 1)
                .due("day(25, 0)", 32)
                .due("day(10, 0)", 0)
                .due("day(10, 1)", 0);
    }

    private static void whenFromOneOn() {
        run("when: the next DAY, from one on. BAD; NONE.")
                .make("thing(0, 0, 4000)", "thing(4, 0, 100)", "thing(0, 0, 3949)")
                .due("when(0, 0)", 0)
                .due("when(0, 1)", 40)
                .due("when(0, 40)", 40)
                .due("when(0, 360)", 360)
                .due("when(0, 361)", -1)
                .due("when(2, 362)", -1)
                .due("when(2, 361)", 361)
                .make("set(0, 0, 127)")
                .due("when(1, 0)", -1)
                .due("when(1, 399)", -1)
                .allDue(-2, "when(1, 400)", "when(1, -1)", "when(3, 0)", "when(-1, 0)", "when(MIN, 0)",
                        "when(MAX, 399)");
        run("when: the last DAY of THE YEAR").make("thing(0, 0, 6039)").due("when(0, 399)", 399);
    }

    private static void oftenOfDays() {
        run("often: of n DAYS (0 .. 400) from 0 on")
                .make("thing(0, 0, 3919)")
                .allDue(-2, "often(0, -1)", "often(0, 401)", "often(0, MIN)", "often(0, MAX)", "often(1, 0)",
                        "often(-1, 0)", "often(6, 400)", "often(MIN, 1)", "often(MAX, 1)")
                .due("often(0, 0)", 0)
                .due("often(0, 19)", 0)
                .due("often(0, 20)", 1)
                .due("often(0, 58)", 1)
                .due("often(0, 59)", 2)
                .due("often(0, 400)", 10)
                .make("thing(0, 0, 100)", "thing(0, 0, 6039)")
                .due("often(1, 0)", 0)
                .due("often(1, 1)", 1)
                .due("often(1, 399)", 399)
                .due("often(1, 400)", 400)
                .due("often(2, 399)", 6)
                .due("often(2, 400)", 7);
    }

    private static void callsUpTo512() {
        Run run = run("An object is used for at most 512 calls: all of them are answered");
        for (int i = 0; i < 511; i++) {
            run.due("set(0, 0, " + (i + 1) % 128 + ")", i % 128);
        }
        run.due("count(1)", 511 % 128);
        Run faults = run("An object is used for at most 512 calls: by a FAULT each");
        for (int i = 0; i < 256; i++) {
            faults.due("feed(" + i + ")", 1).due("text()", i == 32 || i == 10 ? -101 : -100);
        }
    }
}
