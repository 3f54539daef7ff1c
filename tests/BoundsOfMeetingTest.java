/**
 * Each sentence that names a boundary case: MEET, EVERY, WHY, FULL, SHIFT, JOIN, GOOD SHIFT (part 2
 * of the Terms, promises 12 to 18).
 */
public final class BoundsOfMeetingTest {
    private static final Check CHECK = new Check("BoundsOfMeetingTest");
    private static final long NO = -4611686018427387904L;

    public static void main(String[] args) {
        ofNoThings();
        ofOneThing();
        bitsOfNoThing();
        farBehindTheYear();
        longsAreTold();
        notAheadOfABegin();
        byRoundsAlone();
        whyTheFirstTwo();
        whyTheyMeet();
        whyRefuses();
        fullness();
        fullInLowestTerms();
        fullParts();
        shiftByNothing();
        shiftBy59();
        shiftModulo60();
        shiftNone();
        shiftByTheYearAlone();
        shiftRefuses();
        joinByNothing();
        joinBy59();
        joinModulo60();
        joinIsNeverNone();
        joinRefuses();
        goodShiftByNothing();
        goodShiftBy59();
        goodShiftModulo60();
        goodShiftRefuses();
        CHECK.end();
    }

    private static Run run(String sentence) {
        return new Run(CHECK, sentence);
    }

    private static void ofNoThings() {
        String sentence = "MEET (of no THINGS: 0), EVERY (of no THINGS: 1)";
        run(sentence).due("meet(0)", 0).due("every(0)", 1).due("why(0)", -1);
        run(sentence).make("thing(0, 0, 6059)", "thing(0, 0, 6058)")
                .due("meet(0)", 0).due("every(0)", 1).due("why(0)", -1);
    }

    private static void ofOneThing() {
        run("MEET: of one THING, EVERY, WHY")
                .make("thing(0, 0, 100)", "thing(0, 0, 6059)")
                .due("meet(1)", 0)
                .due("every(1)", 1)
                .due("why(1)", -1)
                .due("meet(2)", 59)
                .due("every(2)", 60)
                .due("why(2)", -1);
    }

    private static void bitsOfNoThing() {
        String sentence = "NO: a bit is none of a THING. BAD: a bit is none of a THING.";
        Run run = run(sentence);
        run.allDue(NO, "meet(1)", "every(1)").due("why(1)", -2);
        for (int things = 1; things <= 6; things++) {
            run.make("thing(0, 0, 100)");
            int all = (1 << things) - 1;
            run.due("meet(" + all + ")", 0).due("every(" + all + ")", 1).due("why(" + all + ")", -1);
            for (int bit = things; bit < 32; bit++) {
                int bad = 1 << bit;
                int mixed = all | bad;
                run.due("meet(" + bad + ")", NO).due("every(" + mixed + ")", NO).due("why(" + mixed + ")", -2);
            }
            run = run.anew();
            for (int i = 0; i < things; i++) {
                run.make("thing(0, 0, 100)");
            }
        }
        run.allDue(NO, "meet(-1)", "every(-1)", "meet(MIN)", "every(MIN)", "meet(MAX)", "every(MAX)", "meet(64)");
        run.allDue(-2, "why(-1)", "why(MIN)", "why(MAX)", "why(64)");
    }

    private static void farBehindTheYear() {
        // 60 and 59: from 0 and from 1 on; 59 * 60 less 59 * 1 ..: the day that is 0 by 60 and 1 by 59
        run("MEET: the first DAY (perhaps far behind THE YEAR)")
                .make("thing(0, 0, 6000)", "thing(0, 0, 5901)")
                .due("meet(3)", 60)
                .make("set(3, 1, 58)")
                .due("meet(3)", 59 * 60 - 60)
                .due("every(3)", 3540)
                .make("set(3, 1, 59)")
                .due("meet(3)", 3540);
    }

    private static void longsAreTold() {
        run("long meet: DAYS beyond an int")
                .make("thing(0, 0, 5900)", "thing(0, 0, 5300)", "thing(0, 0, 4700)", "thing(0, 0, 4300)",
                        "thing(0, 0, 4100)", "thing(0, 0, 3700)")
                .due("meet(63)", 0)
                .due("every(63)", 59L * 53 * 47 * 43 * 41 * 37)
                .due("full(1)", 59L * 53 * 47 * 43 * 41 * 37)
                .make("set(3, 0, 58)", "set(3, 1, 52)", "set(3, 2, 46)", "set(3, 3, 42)", "set(3, 4, 40)",
                        "set(3, 5, 36)")
                .due("meet(63)", 59L * 53 * 47 * 43 * 41 * 37 - 1)
                .due("why(63)", -1);
        run("long every: 60, 59, 53, 49, 47, 43")
                .make("thing(0, 0, 6000)", "thing(0, 0, 5900)", "thing(0, 0, 5300)", "thing(0, 0, 4900)",
                        "thing(0, 0, 4700)", "thing(0, 0, 4301)")
                .due("every(63)", 60L * 59 * 53 * 49 * 47 * 43);
    }

    private static void notAheadOfABegin() {
        run("MEET: in ROUNDS of all: no DAY ahead of a BEGIN is")
                .make("thing(0, 0, 100)", "thing(0, 0, 159)", "thing(0, 0, 200)", "thing(0, 0, 759)")
                .due("meet(3)", 59)
                .due("meet(5)", 0)
                .due("meet(7)", 60)
                .due("meet(15)", 66)
                .due("meet(8)", 59)
                .due("every(3)", 1)
                .due("every(15)", 14);
        run("MEET: the BEGIN itself is")
                .make("thing(0, 0, 2959)", "thing(0, 0, 2901)", "thing(0, 0, 2930)")
                .due("meet(3)", 59)
                .due("meet(6)", 30)
                .due("meet(7)", 59)
                .due("every(7)", 29);
    }

    private static void byRoundsAlone() {
        run("MEET: by ROUNDS alone (KINDS do not matter)")
                .make("thing(4, 0, 1400)", "thing(2, 0, 700)", "thing(1, 9, 701)", "thing(5, 1, 6001)",
                        "thing(3, 9, 702)", "set(0, 0, 127)")
                .due("meet(3)", 0)
                .due("every(3)", 14)
                .due("meet(6)", NO)
                .due("why(6)", 12)
                .due("meet(20)", NO)
                .due("meet(12)", 1)
                .due("every(12)", 420);
    }

    private static void whyTheFirstTwo() {
        String sentence = "WHY: the first two (by the lesser, then the other one)";
        run(sentence).make("thing(0, 0, 200)", "thing(0, 0, 201)", "thing(0, 0, 201)")
                .due("why(7)", 1).due("why(3)", 1).due("why(5)", 2).due("why(6)", -1).due("meet(7)", NO)
                .due("every(7)", NO).due("every(6)", 2);
        // 1 and 2 do not meet, nor do 0 and 3: that of 0 is ahead
        run(sentence).make("thing(0, 0, 300)", "thing(0, 0, 200)", "thing(0, 0, 201)", "thing(0, 0, 301)")
                .due("why(15)", 3).due("why(7)", 12).due("why(14)", 12).due("why(9)", 3).due("why(13)", 3);
        run(sentence).make("thing(0, 0, 100)", "thing(0, 0, 100)", "thing(0, 0, 100)", "thing(0, 0, 100)",
                "thing(0, 0, 200)", "thing(0, 0, 201)").due("why(63)", 45).due("why(48)", 45).due("why(31)", -1);
        run(sentence).make("thing(0, 0, 200)", "thing(0, 0, 100)", "thing(0, 0, 100)", "thing(0, 0, 100)",
                "thing(0, 0, 100)", "thing(0, 0, 201)").due("why(63)", 5).due("why(62)", -1);
    }

    private static void whyTheyMeet() {
        run("WHY: NONE: they meet")
                .make("thing(0, 0, 6000)", "thing(0, 0, 5959)")
                .due("why(3)", -1)
                .due("meet(3)", 60 * 59)
                .due("every(3)", 60 * 59);
    }

    private static void whyRefuses() {
        run("WHY: BAD ahead of two that never meet")
                .make("thing(0, 0, 200)", "thing(0, 0, 201)")
                .due("why(3)", 1)
                .allDue(-2, "why(7)", "why(-1)", "why(MAX)", "why(4)");
    }

    private static void fullness() {
        run("FULL: of all THINGS 1 by PERIOD, together")
                .due("full(0)", 0)
                .due("full(1)", 1)
                .make("thing(0, 0, 6059)")
                .due("full(0)", 1)
                .due("full(1)", 60)
                .make("thing(4, 9, 100)")
                .due("full(0)", 61)
                .due("full(1)", 60);
    }

    private static void fullInLowestTerms() {
        Run run = run("full: in lowest terms");
        for (int i = 0; i < 6; i++) {
            run.make("thing(0, 0, 6000)");
        }
        run.due("full(0)", 1).due("full(1)", 10);
        for (int i = 0; i < 6; i++) {
            run.make("set(2, " + i + ", 1)");
        }
        run.due("full(0)", 6).due("full(1)", 1);
        for (int i = 0; i < 6; i++) {
            run.make("set(2, " + i + ", 6)");
        }
        run.due("full(0)", 1).due("full(1)", 1);
        int[] periods = {60, 59, 58, 57, 56, 55};
        for (int i = 0; i < 6; i++) {
            run.make("set(2, " + i + ", " + periods[i] + ")");
        }
        // by 60 * 59 * 29 * 19 * 14 * 11 = 300383160: 60, 58, 57, 56, 55 share factors with it
        long below = 60L * 59 * 29 * 19 * 14 * 11;
        long above = 0;
        for (int period : periods) {
            above += below / period;
        }
        long divisor = 1;
        for (long d = 2; d <= 60; d++) {
            while (above % (divisor * d) == 0 && below % (divisor * d) == 0) {
                divisor *= d;
            }
        }
        run.due("full(0)", above / divisor).due("full(1)", below / divisor);
    }

    private static void fullParts() {
        run("full: part 0 above, 1 below the line. NO: part.")
                .make("thing(0, 0, 100)")
                .allDue(NO, "full(-1)", "full(2)", "full(MIN)", "full(MAX)")
                .allDue(1, "full(0)", "full(1)");
    }

    private static void shiftByNothing() {
        String sentence = "SHIFT: the fewest DAYS (0 .. 59): 0";
        run(sentence).make("thing(0, 0, 100)").due("shift(0)", 0);
        run(sentence).make("thing(0, 0, 200)", "thing(0, 0, 201)").due("shift(0)", 0).due("shift(1)", 0);
        run(sentence + ": it never comes").make("thing(4, 0, 100)", "thing(0, 0, 100)", "set(0, 0, 127)")
                .due("shift(0)", 0).due("shift(1)", 0);
    }

    /** Others that come on all days from day 1 on but 60, 120, .., and one of period 60. */
    private static Run allButOne(String sentence, int begin) {
        return run(sentence).make("thing(0, 0, 60" + (begin < 10 ? "0" : "") + begin + ")", "thing(3, 9, 3002)",
                "thing(3, 9, 3013)", "thing(3, 9, 3020)", "thing(0, 0, 6030)");
    }

    private static void shiftBy59() {
        String sentence = "SHIFT: the fewest DAYS (0 .. 59), was its BEGIN so many later (modulo 60)";
        allButOne(sentence, 1).due("shift(0)", 59);
        allButOne(sentence, 2).due("shift(0)", 58);
        allButOne(sentence, 59).due("shift(0)", 1);
        allButOne(sentence, 0).due("shift(0)", 0);
    }

    private static void shiftModulo60() {
        run("SHIFT: was its BEGIN so many later (modulo 60)")
                .make("thing(0, 0, 6059)", "thing(0, 0, 6059)", "thing(0, 0, 6000)", "thing(0, 0, 6001)")
                .due("shift(0)", 3)
                .due("shift(2)", 0)
                .due("shift(3)", 0)
                .make("set(3, 2, 59)")
                .due("shift(2)", 1);
    }

    private static void shiftNone() {
        String sentence = "SHIFT: NONE";
        allButOne(sentence, 1).make("thing(0, 0, 6000)").due("shift(0)", -1).due("shift(5)", 0);
        run(sentence).make("thing(0, 0, 100)", "thing(0, 0, 100)").due("shift(0)", -1).due("shift(1)", -1);
        run(sentence).make("thing(0, 0, 6000)", "thing(0, 0, 5900)").due("shift(0)", 1);
    }

    private static void shiftByTheYearAlone() {
        // 49, 99, .., 399 and 45, 104, .., 399
        run("SHIFT: on no DAY of THE YEAR on which any other one does: DAY 399 is one")
                .make("thing(0, 0, 5049)", "thing(0, 0, 5945)")
                .due("day(399, 0)", 3)
                .due("year(2)", 1)
                .due("shift(0)", 1);
        // 0, 50, .., 400 and 46, 105, .., 400
        run("SHIFT: on no DAY of THE YEAR on which any other one does: DAY 400 is none")
                .make("thing(0, 0, 5000)", "thing(0, 0, 5946)")
                .due("meet(3)", 400)
                .due("shift(0)", 0)
                .due("shift(1)", 0);
        run("SHIFT: DAY 0 is one")
                .make("thing(0, 0, 6000)", "thing(4, 0, 6000)", "set(0, 0, 126)")
                .due("often(1, 400)", 1)
                .due("shift(0)", 1);
        // one lasts on 2 .. 5; one is put off from 6 to 7, but not from 66
        run("SHIFT: it would COME on no DAY")
                .make("thing(0, 0, 6002)", "thing(1, 3, 6002)", "thing(2, 0, 6006)", "set(0, 0, 64)")
                .due("day(6, 0)", 0)
                .due("day(7, 0)", 4)
                .due("day(66, 0)", 4)
                .due("shift(0)", 6);
    }

    private static void shiftRefuses() {
        run("shift: BAD; NONE")
                .due("shift(0)", -2)
                .make("thing(0, 0, 100)", "thing(0, 0, 100)")
                .allDue(-2, "shift(-1)", "shift(2)", "shift(6)", "shift(MIN)", "shift(MAX)")
                .due("shift(1)", -1);
    }

    private static void joinByNothing() {
        run("JOIN: the fewest DAYS (0 .. 59): 0")
                .make("thing(0, 0, 6000)", "thing(0, 0, 6000)", "thing(0, 0, 5959)", "thing(0, 0, 100)")
                .allDue(0, "join(0, 1)", "join(1, 0)", "join(0, 2)", "join(2, 0)", "join(3, 0)", "join(0, 3)");
    }

    private static void joinBy59() {
        run("JOIN: the fewest DAYS (0 .. 59): 59")
                .make("thing(0, 0, 6000)", "thing(0, 0, 6059)", "thing(0, 0, 6030)")
                .due("join(0, 1)", 59)
                .due("join(0, 2)", 30)
                .due("join(2, 1)", 29);
    }

    private static void joinModulo60() {
        run("JOIN: was the first one's BEGIN so many later (modulo 60)")
                .make("thing(0, 0, 6059)", "thing(0, 0, 6000)", "thing(0, 0, 5058)", "thing(0, 0, 2507)")
                .due("join(0, 1)", 1)
                .due("join(2, 3)", 9)
                .due("join(3, 2)", 1)
                .make("set(3, 1, 58)")
                .due("join(0, 1)", 59);
    }

    private static void joinIsNeverNone() {
        String sentence = "JOIN: the first one's BEGIN by each of 60: one of them always joins";
        for (int period = 1; period <= 60; period++) {
            Run run = run(sentence).make("thing(0, 0, " + period + "00)", "thing(0, 0, " + period + "59)");
            run.due("join(0, 1)", 59 % period);
            int back = 0;
            while ((59 + back) % 60 % period != 0) {
                back++;
            }
            run.due("join(1, 0)", back);
        }
    }

    private static void joinRefuses() {
        run("join: BAD (alike, too)")
                .allDue(-2, "join(0, 0)", "join(0, 1)")
                .make("thing(0, 0, 100)", "thing(0, 0, 100)")
                .allDue(-2, "join(0, 0)", "join(1, 1)", "join(0, 2)", "join(2, 0)", "join(2, 2)", "join(-1, 0)",
                        "join(0, -1)", "join(-1, -1)", "join(MIN, 1)", "join(1, MAX)", "join(6, 0)")
                .allDue(0, "join(0, 1)", "join(1, 0)");
    }

    private static void goodShiftByNothing() {
        String sentence = "GOOD SHIFT: the DAYS (0 .. 59), of like ones the fewest: 0";
        run(sentence).make("thing(0, 0, 100)").rule("costs 5;crowds 0;minds 5;")
                .due("goodShift(0, 0)", 59).due("goodShift(0, 1)", 5 * 341 + 5);
        run(sentence).make("thing(0, 0, 6000)").rule("costs 0;crowds 0;minds 5;")
                .due("goodShift(0, 0)", 0).due("goodShift(0, 1)", 5);
        run(sentence).make("thing(0, 0, 6041)").rule("costs 5;crowds 0;minds 0;")
                .due("goodShift(0, 0)", 0).due("goodShift(0, 1)", 30);
        // from begin 40 on it comes six times, not seven
        run(sentence).make("thing(0, 0, 6000)").rule("costs 5;crowds 0;minds 0;")
                .due("goodShift(0, 0)", 40).due("goodShift(0, 1)", 30);
    }

    private static void goodShiftBy59() {
        run("GOOD SHIFT: the DAYS (0 .. 59): 59")
                .make("thing(0, 0, 6020)", "thing(0, 0, 6010)")
                .rule("costs 0;crowds 0;minds 59-rest;")
                .due("goodShift(0, 0)", 59)
                .due("goodShift(0, 1)", 0)
                .rule("costs 0;crowds 0;minds 60-rest;")
                .due("goodShift(1, 0)", 59)
                .due("goodShift(1, 1)", 1);
    }

    private static void goodShiftModulo60() {
        run("GOOD SHIFT: was its BEGIN so many later (modulo 60)")
                .make("thing(0, 0, 6059)")
                .rule("costs 9*(1<day);crowds 0;minds 0;")
                .due("year(0)", 6 * 9)
                .due("goodShift(0, 0)", 0)
                .rule("costs 99*(1<day and day<60);crowds 0;minds 0;")
                .due("year(0)", 99)
                .due("goodShift(0, 0)", 1)
                .due("goodShift(0, 1)", 0)
                .rule("costs 99*(not day=1 and day<60);crowds 0;minds 0;")
                .due("goodShift(0, 0)", 2)
                .due("goodShift(0, 1)", 0);
    }

    private static void goodShiftRefuses() {
        run("goodShift: what 0, 1. BAD.")
                .allDue(-2, "goodShift(0, 0)")
                .make("thing(0, 0, 6000)")
                .allDue(-2, "goodShift(1, 0)", "goodShift(-1, 0)", "goodShift(6, 1)", "goodShift(MIN, 0)",
                        "goodShift(MAX, 1)", "goodShift(0, -1)", "goodShift(0, 2)", "goodShift(0, MIN)",
                        "goodShift(0, MAX)", "goodShift(1, 2)")
                .due("goodShift(0, 0)", 0)
                .due("goodShift(0, 1)", 7);
    }
}
