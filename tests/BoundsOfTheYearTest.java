/**
 * Each sentence that names a boundary case: what is told of THE YEAR (part 2 of the Terms,
 * promise 11).
 */
public final class BoundsOfTheYearTest {
    private static final Check CHECK = new Check("BoundsOfTheYearTest");

    public static void main(String[] args) {
        whats();
        aYearWithNothingInIt();
        aFullYear();
        daysOfTheYearAlone();
        oneOrTwoOrMore();
        noRest();
        theWholeYearRests();
        restAtTheYearsEdges();
        ofLikeRestsTheFirst();
        aRestOfOneDay();
        weeksUpTo56();
        ofLikeWeeksTheFirst();
        eachDayAnew();
        dearestDays();
        dearestAtTheYearsEdges();
        whatCostsNothing();
        CHECK.end();
    }

    private static Run run(String sentence) {
        return new Run(CHECK, sentence);
    }

    private static void year(Run run, int... want) {
        for (int what = 0; what < want.length; what++) {
            run.due("year(" + what + ")", want[what]);
        }
    }

    private static void whats() {
        run("year: what 0 .. 8. BAD.")
                .allDue(-2, "year(-1)", "year(9)", "year(MIN)", "year(MAX)")
                .due("year(0)", 0)
                .due("year(8)", 0);
    }

    private static void aYearWithNothingInIt() {
        year(run("of THE YEAR: no THINGS"), 0, 0, 0, 400, 0, 0, 0, 0, 0);
        year(run("of THE YEAR: THINGS that never come").make("thing(4, 0, 100)", "thing(2, 0, 100)",
                "set(0, 0, 127)"), 0, 0, 0, 400, 0, 0, 0, 0, 0);
    }

    private static void aFullYear() {
        Run run = run("of THE YEAR: 6 THINGS come on each DAY");
        for (int i = 0; i < 6; i++) {
            run.make("thing(0, 0, 100)");
        }
        year(run, 400 * 42, 400, 400, 0, -1, 0, 42, 0, 42);
        year(run.rule("costs 9999;crowds 9999;minds 0;"), 400 * 7 * 99, 400, 400, 0, -1, 0, 42, 0, 7 * 99);
        run.make("set(1, 0, 0)");
        Run dear = run("of THE YEAR: 6 DOUBLES on each DAY, as dear as can be");
        for (int i = 0; i < 6; i++) {
            dear.make("thing(3, 0, 100)");
        }
        year(dear.rule("costs 9999;crowds 9999;minds 0;"), 400 * (6 * 198 + 99), 400, 400, 0, -1, 0, 42, 0, 1287);
    }

    private static void daysOfTheYearAlone() {
        // 0 .. 399 alone: it comes on 40, 80, .., 360, and on 400, which is behind
        year(run("Of THE YEAR (DAYS 0 .. 399): DAY 400 is none").make("thing(0, 0, 4040)"),
                9, 9, 0, 40, 0, 5, 1, 40, 1);
        // on 39, 79, .., 399
        year(run("Of THE YEAR (DAYS 0 .. 399): DAY 399 is one").make("thing(0, 0, 4039)"),
                10, 10, 0, 39, 0, 5, 1, 39, 1);
    }

    private static void oneOrTwoOrMore() {
        String sentence = "on how many DAYS anything COMES, two or more do";
        run(sentence).make("thing(0, 0, 6000)").due("year(1)", 7).due("year(2)", 0);
        run(sentence).make("thing(0, 0, 6000)", "thing(0, 0, 6000)").due("year(1)", 7).due("year(2)", 7);
        run(sentence)
                .make("thing(0, 0, 6000)", "thing(0, 0, 6000)", "thing(0, 0, 6000)", "thing(0, 0, 6001)")
                .due("year(1)", 14)
                .due("year(2)", 7);
    }

    private static void noRest() {
        String sentence = "LONGEST REST (3), its first DAY (4; NONE)";
        run(sentence).make("thing(0, 0, 100)").due("year(3)", 0).due("year(4)", -1);
        run(sentence).make("thing(0, 0, 200)", "thing(0, 0, 201)").due("year(3)", 0).due("year(4)", -1);
        run(sentence).make("thing(0, 0, 101)").due("year(3)", 1).due("year(4)", 0);
    }

    private static void theWholeYearRests() {
        run("the LONGEST REST: nothing COMES on all DAYS")
                .due("year(3)", 400)
                .due("year(4)", 0)
                .make("thing(0, 0, 6059)")
                .due("year(3)", 59);
    }

    private static void restAtTheYearsEdges() {
        // of its round only 0 is day 0 of a week
        run("the LONGEST REST: it ends with DAY 399")
                .make("thing(4, 0, 6000)", "set(0, 0, 126)")
                .due("often(0, 400)", 1)
                .due("year(3)", 399)
                .due("year(4)", 1);
        // and of this one only 399
        run("the LONGEST REST: it begins with DAY 0")
                .make("thing(4, 0, 6039)", "set(0, 0, 126)")
                .due("often(0, 400)", 1)
                .due("year(3)", 399)
                .due("year(4)", 0);
        // 398 alone
        run("the LONGEST REST: one DAY behind it does not count")
                .make("thing(4, 0, 6038)", "set(0, 0, 63)")
                .due("often(0, 400)", 1)
                .due("year(3)", 398)
                .due("year(4)", 0);
    }

    private static void ofLikeRestsTheFirst() {
        String sentence = "the LONGEST REST: of like ones the first";
        run(sentence).make("thing(0, 0, 6059)").due("year(3)", 59).due("year(4)", 0);
        run(sentence).make("thing(0, 0, 6058)").due("year(3)", 59).due("year(4)", 59);
        run(sentence).make("thing(0, 0, 6000)").due("year(3)", 59).due("year(4)", 1);
        // 0, 57, .., 399: six rests of 56, the last one up to 398
        run(sentence).make("thing(0, 0, 5700)").due("year(3)", 56).due("year(4)", 1);
    }

    private static void aRestOfOneDay() {
        run("the LONGEST REST: of one DAY")
                .make("thing(0, 0, 200)")
                .due("year(3)", 1)
                .due("year(4)", 1)
                .make("set(3, 0, 1)")
                .due("year(3)", 1)
                .due("year(4)", 0);
    }

    private static void weeksUpTo56() {
        String sentence = "the FULLEST WEEK: of weeks w 0 .. 56 (DAYS 7 w to 7 w and 6)";
        run(sentence + ": DAY 399 is in none")
                .make("thing(4, 0, 6039)", "set(0, 0, 126)")
                .due("day(399, 0)", 1)
                .due("year(5)", 0)
                .due("year(6)", 0);
        run(sentence + ": DAY 398 is in 56")
                .make("thing(4, 0, 6038)", "set(0, 0, 63)")
                .due("day(398, 0)", 1)
                .due("year(5)", 56)
                .due("year(6)", 1);
        // days 32, 92, .., 392: of these only 392 is day 0 of a week
        run(sentence + ": DAY 392 is in 56")
                .make("thing(4, 0, 6032)", "set(0, 0, 126)")
                .due("often(0, 400)", 1)
                .due("day(392, 0)", 1)
                .due("year(5)", 56)
                .due("year(6)", 1);
        // days 31, 91, .., 391: of these only 391 is day 6 of a week
        run(sentence + ": DAY 391 is in 55")
                .make("thing(4, 0, 6031)", "set(0, 0, 63)")
                .due("often(0, 400)", 1)
                .due("day(391, 0)", 1)
                .due("year(5)", 55)
                .due("year(6)", 1);
        run(sentence + ": DAYS 6 and 7 are in two").make("thing(3, 0, 6007)").due("year(5)", 9).due("year(6)", 2);
    }

    private static void ofLikeWeeksTheFirst() {
        String sentence = "the FULLEST WEEK: of like ones the first";
        run(sentence).make("thing(0, 0, 700)").due("year(5)", 0).due("year(6)", 1);
        run(sentence).make("thing(0, 0, 1409)").due("year(5)", 1).due("year(6)", 1);
        run(sentence).make("thing(0, 0, 1409)", "thing(0, 0, 2809)").due("year(5)", 1).due("year(6)", 2);
        run(sentence).make("thing(0, 0, 1409)", "thing(0, 0, 2823)").due("year(5)", 3).due("year(6)", 2);
    }

    private static void eachDayAnew() {
        run("the FULLEST WEEK: a THING on each DAY anew")
                .make("thing(0, 0, 100)")
                .due("year(6)", 7)
                .make("thing(1, 3, 6009)")
                .due("year(5)", 1)
                .due("year(6)", 11);
    }

    private static void dearestDays() {
        String sentence = "the DEAREST DAY: that which costs most, of like ones the first";
        run(sentence).make("thing(0, 0, 100)").due("year(7)", 0).due("year(8)", 1);
        run(sentence).make("thing(0, 0, 6017)").due("year(7)", 17).due("year(8)", 1);
        run(sentence).make("thing(0, 0, 6017)", "thing(0, 0, 6018)").due("year(7)", 17).due("year(8)", 1);
        run(sentence).make("thing(0, 0, 6018)", "thing(2, 0, 6017)", "thing(2, 0, 6019)")
                .due("year(7)", 17).due("year(8)", 2);
        run(sentence).make("thing(0, 0, 100)").rule("costs day;crowds 0;minds 0;")
                .due("year(7)", 99).due("year(8)", 99);
        run(sentence).make("thing(0, 0, 100)").rule("costs 99-day;crowds 0;minds 0;")
                .due("year(7)", 0).due("year(8)", 99);
    }

    private static void dearestAtTheYearsEdges() {
        run("the DEAREST DAY: DAY 399")
                .make("thing(0, 0, 100)")
                .rule("costs day-300;crowds 0;minds 0;")
                .due("year(7)", 399)
                .due("year(8)", 99)
                .rule("costs 7*(398<day);crowds 0;minds 0;")
                .due("year(7)", 399)
                .due("year(8)", 7)
                .due("year(0)", 7);
        run("the DEAREST DAY: DAY 0")
                .make("thing(0, 0, 100)")
                .rule("costs 7*(day<1);crowds 0;minds 0;")
                .due("year(7)", 0)
                .due("year(8)", 7)
                .due("year(0)", 7);
    }

    private static void whatCostsNothing() {
        run("the DEAREST DAY: none costs anything")
                .make("thing(0, 0, 6030)")
                .rule("costs 0;crowds 0;minds 0;")
                .due("year(0)", 0)
                .due("year(1)", 7)
                .due("year(7)", 0)
                .due("year(8)", 0);
    }
}
