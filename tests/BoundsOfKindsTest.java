/**
 * Each sentence that names a boundary case: on which days each KIND comes, and what it spends
 * (COMES and SPENDS in part 1 of the Terms).
 */
public final class BoundsOfKindsTest {
    private static final Check CHECK = new Check("BoundsOfKindsTest");

    public static void main(String[] args) {
        things();
        lastingDays();
        lastingAheadOfItsBegin();
        lastingPastItsPeriod();
        putOffNoHoliday();
        putOffAsLongAsTheyAreHolidays();
        putOffSixAtMost();
        putOffAtTheYearsEdges();
        putOffAlwaysOrNever();
        doubles();
        doublesAtTheYearsEdges();
        skipped();
        fixed();
        thingsSpend();
        lastingSpends();
        putOffSpends();
        doublesSpend();
        skippedSpends();
        fixedSpends();
        quotientsAreCut();
        CHECK.end();
    }

    private static Run run(String sentence) {
        return new Run(CHECK, sentence);
    }

    /** Of the days from one up to another one, the first thing comes on just these. */
    private static void comes(Run run, int from, int to, int... days) {
        for (int day = from; day <= to; day++) {
            boolean due = false;
            for (int one : days) {
                due |= one == day;
            }
            run.due("day(" + day + ", 0)", due ? 1 : 0);
        }
    }

    private static void things() {
        Run run = run("THING: if d is in its ROUND").make("thing(0, 9, 2005)", "set(0, 0, 127)");
        comes(run, 0, 50, 5, 25, 45);
        comes(run, 380, 399, 385);
    }

    private static void lastingDays() {
        String sentence = "LASTING: if any of d, d less 1, .., d less NUMBER is";
        comes(run(sentence).make("thing(1, 0, 2005)"), 0, 30, 5, 25);
        comes(run(sentence).make("thing(1, 1, 2005)"), 0, 30, 5, 6, 25, 26);
        comes(run(sentence).make("thing(1, 9, 2005)", "set(0, 0, 127)"), 0, 25,
                5, 6, 7, 8, 9, 10, 11, 12, 13, 14, 25);
        comes(run(sentence).make("thing(1, 9, 6030)"), 388, 399, 390, 391, 392, 393, 394, 395, 396, 397, 398, 399);
        comes(run(sentence).make("thing(1, 8, 6030)"), 388, 399, 390, 391, 392, 393, 394, 395, 396, 397, 398);
    }

    private static void lastingAheadOfItsBegin() {
        comes(run("LASTING: no DAY ahead of BEGIN is in its ROUND").make("thing(1, 9, 310)"), 0, 12, 10, 11, 12);
        comes(run("LASTING: no DAY ahead of DAY 0 is in its ROUND").make("thing(1, 9, 6000)"), 0, 20,
                0, 1, 2, 3, 4, 5, 6, 7, 8, 9);
    }

    private static void lastingPastItsPeriod() {
        run("LASTING: d less NUMBER, NUMBER 1 less than PERIOD: it never rests")
                .make("thing(1, 9, 1000)", "thing(1, 9, 1100)", "thing(1, 9, 900)", "thing(1, 0, 100)")
                .due("often(0, 400)", 400)
                .due("often(1, 400)", 364)
                .due("when(1, 10)", 11)
                .due("often(2, 400)", 400)
                .due("often(3, 400)", 400);
    }

    private static void putOffNoHoliday() {
        String sentence = "PUT OFF: if d is no HOLIDAY, and it is in its ROUND";
        comes(run(sentence).make("thing(2, 9, 1003)"), 0, 24, 3, 13, 23);
        comes(run(sentence).make("thing(2, 9, 6003)", "set(0, 0, 119)"), 0, 20, 3);
        comes(run(sentence + ": of all DAYS").make("thing(2, 0, 100)", "set(0, 0, 9)"), 0, 14,
                1, 2, 4, 5, 6, 8, 9, 11, 12, 13);
    }

    private static void putOffAsLongAsTheyAreHolidays() {
        String sentence = "PUT OFF: one of the HOLIDAYS directly ahead of it (as long as they are HOLIDAYS)";
        comes(run(sentence).make("thing(2, 0, 6001)", "set(0, 0, 10)"), 0, 14, 2);
        comes(run(sentence).make("thing(2, 0, 6001)", "set(0, 0, 14)"), 0, 14, 4);
        comes(run(sentence).make("thing(2, 0, 6001)", "set(0, 0, 26)"), 0, 14, 2);
        comes(run(sentence).make("thing(2, 0, 6001)", "set(0, 0, 12)"), 0, 14, 1);
        comes(run("PUT OFF: a DAY ahead that is no HOLIDAY does not put off").make("thing(2, 0, 6001)"), 0, 14, 1);
    }

    private static void putOffSixAtMost() {
        for (int begin = 0; begin <= 8; begin++) {
            Run run = run("PUT OFF: those from d less 1 back, 6 at most").make("thing(2, 0, " + (6000 + begin) + ")",
                    "set(0, 0, 126)");
            comes(run, 0, 22, begin == 0 ? 0 : begin <= 7 ? 7 : 14);
        }
    }

    private static void putOffAtTheYearsEdges() {
        comes(run("PUT OFF: HOLIDAYS directly ahead, from DAY 0 on").make("thing(2, 0, 6000)", "set(0, 0, 1)"),
                0, 9, 1);
        comes(run("PUT OFF: no DAY ahead of DAY 0").make("thing(2, 0, 6005)", "set(0, 0, 126)"), 0, 6);
        comes(run("PUT OFF: to DAY 399").make("thing(2, 0, 6038)", "set(0, 0, 64)"), 390, 399, 399);
        comes(run("PUT OFF: to DAY 400, which is behind THE YEAR").make("thing(2, 0, 6039)", "set(0, 0, 1)"),
                390, 399);
    }

    private static void putOffAlwaysOrNever() {
        run("PUT OFF: all DAYS are HOLIDAYS")
                .make("thing(2, 0, 100)", "set(0, 0, 127)")
                .due("often(0, 400)", 0)
                .due("when(0, 0)", -1);
        run("PUT OFF: several of its ROUND to one DAY")
                .make("thing(2, 0, 100)", "set(0, 0, 126)")
                .due("often(0, 400)", 58)
                .due("when(0, 1)", 7)
                .due("when(0, 399)", 399);
    }

    private static void doubles() {
        String sentence = "DOUBLE: as a LASTING, or if d and 1 is in its ROUND";
        comes(run(sentence).make("thing(3, 0, 2005)"), 0, 30, 4, 5, 24, 25);
        comes(run(sentence).make("thing(3, 9, 2005)", "set(0, 0, 127)"), 0, 25,
                4, 5, 6, 7, 8, 9, 10, 11, 12, 13, 14, 24, 25);
        run(sentence + ": of all DAYS")
                .make("thing(3, 0, 200)", "thing(3, 0, 300)", "thing(3, 8, 1000)", "thing(3, 0, 159)")
                .due("often(0, 400)", 400)
                .due("often(1, 400)", 267)
                .due("often(2, 400)", 400)
                .due("when(3, 0)", 58);
    }

    private static void doublesAtTheYearsEdges() {
        comes(run("DOUBLE: in its ROUND on DAY 0").make("thing(3, 0, 2000)"), 0, 19, 0, 19);
        comes(run("DOUBLE: in its ROUND on DAY 1").make("thing(3, 0, 2001)"), 0, 19, 0, 1);
        comes(run("DOUBLE: d and 1 is DAY 400").make("thing(3, 0, 4000)"), 390, 399, 399);
        comes(run("DOUBLE: d and 2 is DAY 401").make("thing(3, 0, 4001)"), 390, 399);
    }

    private static void skipped() {
        String sentence = "SKIPPED: if d is in its ROUND and no HOLIDAY";
        comes(run(sentence).make("thing(4, 9, 1003)"), 0, 24, 3, 13, 23);
        comes(run(sentence).make("thing(4, 9, 1003)", "set(0, 0, 64)"), 0, 24, 3, 23);
        run(sentence)
                .make("thing(4, 0, 100)", "set(0, 0, 127)")
                .due("often(0, 400)", 0)
                .make("set(0, 0, 126)")
                .due("often(0, 400)", 58)
                .due("when(0, 393)", 399)
                .make("set(0, 0, 1)")
                .due("often(0, 400)", 342)
                .due("when(0, 0)", 1);
    }

    private static void fixed() {
        String sentence = "FIXED: if d is in its ROUND, or d is NUMBER modulo 30";
        comes(run(sentence).make("thing(5, 0, 6045)", "set(0, 0, 127)"), 0, 70, 0, 30, 45, 60);
        comes(run(sentence).make("thing(5, 9, 6059)"), 0, 70, 9, 39, 59, 69);
        comes(run(sentence).make("thing(5, 9, 6009)"), 380, 399, 399);
        comes(run(sentence).make("thing(5, 8, 6000)"), 380, 399, 398);
    }

    private static void spends(Run run, int kind, int number, int v, int want) {
        run.anew()
                .make("thing(" + kind + ", " + number + ", 6010)")
                .rule("costs " + v + ";crowds 50;minds 50;")
                .due("day(10, 1)", want);
    }

    private static void thingsSpend() {
        Run run = run("SPENDS: THING: v");
        spends(run, 0, 9, 0, 0);
        spends(run, 0, 0, 1, 1);
        spends(run, 0, 9, 99, 99);
    }

    private static void lastingSpends() {
        Run run = run("SPENDS: LASTING: v by (NUMBER and 1) (cut), 1 at least");
        spends(run, 1, 0, 0, 1);
        spends(run, 1, 9, 0, 1);
        spends(run, 1, 0, 1, 1);
        spends(run, 1, 0, 2, 2);
        spends(run, 1, 0, 99, 99);
        spends(run, 1, 9, 9, 1);
        spends(run, 1, 9, 10, 1);
        spends(run, 1, 9, 20, 2);
        spends(run, 1, 9, 99, 9);
        spends(run, 1, 8, 99, 11);
    }

    private static void putOffSpends() {
        Run run = run("SPENDS: PUT OFF: 1 more than a THING");
        spends(run, 2, 9, 0, 1);
        spends(run, 2, 0, 99, 100);
    }

    private static void doublesSpend() {
        Run run = run("SPENDS: DOUBLE: twice a LASTING's");
        spends(run, 3, 0, 0, 2);
        spends(run, 3, 9, 9, 2);
        spends(run, 3, 9, 15, 2);
        spends(run, 3, 9, 99, 18);
        spends(run, 3, 1, 3, 2);
        spends(run, 3, 0, 99, 198);
    }

    private static void skippedSpends() {
        Run run = run("SPENDS: SKIPPED: as a PUT OFF");
        spends(run, 4, 9, 0, 1);
        spends(run, 4, 0, 99, 100);
    }

    private static void fixedSpends() {
        Run run = run("SPENDS: FIXED: as a THING");
        spends(run, 5, 9, 0, 0);
        spends(run, 5, 0, 99, 99);
    }

    private static void quotientsAreCut() {
        Run run = run("Quotients are cut toward 0");
        spends(run, 1, 1, 3, 1);
        spends(run, 1, 1, 5, 2);
        spends(run, 1, 9, 19, 1);
        spends(run, 1, 9, 29, 2);
        spends(run, 3, 1, 5, 4);
    }
}
