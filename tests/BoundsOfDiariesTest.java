/**
 * Each sentence that names a boundary case: diaries, films, holidays that are drawn, the image,
 * counts (part 2 of the Terms, promises 19 to 26).
 */
public final class BoundsOfDiariesTest {
    private static final Check CHECK = new Check("BoundsOfDiariesTest");
    private static final long NO = -4611686018427387904L;
    private static final long ALL_PERIODS = (1L << 60) - 1;

    public static void main(String[] args) {
        twentyDays();
        risingOrder();
        daysOfTheYear();
        upToTheLastTold();
        whoseOfNoneAndAll();
        kinds();
        periodsOfOneDay();
        periodsOneTo60();
        twoRoundsOfOneDay();
        twoRoundsOneTo60();
        twoRoundsOfTheFirstAlone();
        twoRoundsUpToTheLast();
        theSecondBeginsOnTheFirstThatIsNot();
        diaryRefuses();
        roundsRefuse();
        filmOfDays();
        filmFromDayZero();
        filmOfFewer();
        filmRefuses();
        drawnByASeed();
        drawnByNegativeNumbers();
        chanceOfSeeds();
        chanceWrapsAround();
        chanceInLowestTerms();
        chanceRefuses();
        noImage();
        imageOfNothing();
        whatAnImageKeeps();
        thingsThatCameSinceGo();
        theImageStays();
        whatStaysAsItIs();
        counts();
        CHECK.end();
    }

    private static Run run(String sentence) {
        return new Run(CHECK, sentence);
    }

    private static int[] daysEvery(int step, int n) {
        int[] days = new int[n];
        for (int i = 0; i < n; i++) {
            days[i] = i * step;
        }
        return days;
    }

    /** A sheet of such days is no diary. */
    private static void none(String sentence, int... days) {
        for (int sort = 1; sort <= 2; sort++) {
            run(sentence)
                    .make("thing(0, 0, 100)")
                    .lay(1, sort, days)
                    .allDue(-2, "diary(1, 0, 0)", "diary(1, 1, 0)")
                    .allDue(NO, "rounds(1, 0)", "rounds(1, 1)");
        }
    }

    private static void twentyDays() {
        String sentence = "DIARY: a SHEET tells some DAYS of THE YEAR (1 .. 20)";
        none(sentence);
        run(sentence).make("thing(0, 0, 1000)").lay(1, 1, 0)
                .due("diary(1, 0, 0)", 1).due("diary(1, 1, 0)", 63).due("rounds(1, 0)", ALL_PERIODS);
        // by 10 any q; by 20 then 10 by 10 or 20; by 30, 40, 50, 60 then 10 by 10
        run(sentence).make("thing(0, 1, 1000)").lay(1, 1, daysEvery(10, 20))
                .due("diary(1, 0, 0)", 1).due("diary(1, 1, 0)", 21).due("rounds(1, 0)", 1L << 9)
                .due("rounds(1, 1)", 60 + 2 + 4);
        none(sentence, daysEvery(10, 21));
        none(sentence, daysEvery(1, 40));
    }

    private static void risingOrder() {
        String sentence = "BAD: what isn't in rising order";
        none(sentence, 5, 5);
        none(sentence, 5, 4);
        none(sentence, 0, 0);
        none(sentence, 1, 2, 3, 3);
        none(sentence, 1, 3, 2, 4);
        none(sentence, 399, 398);
        run(sentence).lay(1, 1, 4, 5).due("diary(1, 0, 0)", 0).due("rounds(1, 0)", 1);
    }

    private static void daysOfTheYear() {
        String sentence = "BAD: no DAY of THE YEAR";
        none(sentence, -1);
        none(sentence, 400);
        none(sentence, -1, 0);
        none(sentence, 0, 400);
        none(sentence, 398, 399, 400);
        run(sentence).lay(1, 2, Integer.MIN_VALUE).due("diary(1, 0, 0)", -2).due("rounds(1, 0)", NO);
        run(sentence).lay(1, 2, 0, Integer.MAX_VALUE).due("diary(1, 0, 0)", -2).due("rounds(1, 1)", NO);
        run(sentence).make("thing(0, 0, 6039)").lay(1, 1, 399)
                .due("diary(1, 0, 0)", 0).due("rounds(1, 0)", ALL_PERIODS).due("rounds(1, 1)", 3600);
        run(sentence).make("thing(0, 0, 5700)").lay(1, 2, daysEvery(57, 8)).due("diary(1, 0, 0)", 1);
        run(sentence).make("thing(4, 0, 6039)", "set(0, 0, 126)").lay(1, 1, 399).due("diary(1, 0, 0)", 1);
    }

    private static void upToTheLastTold() {
        run("DIARY: THINGS that COME, of DAYS up to the last told one, on just these")
                .make("thing(0, 0, 1000)", "thing(0, 0, 2000)", "thing(0, 0, 1010)", "thing(5, 1, 2000)")
                .lay(1, 0, 0)
                .due("diary(1, 0, 0)", 11)
                .lay(1, 0, 0, 10)
                .due("diary(1, 0, 0)", 1)
                .lay(1, 0, 0, 20)
                .due("diary(1, 0, 0)", 2)
                .lay(1, 0, 10)
                .due("diary(1, 0, 0)", 4)
                .lay(1, 0, 0, 1)
                .due("diary(1, 0, 0)", 8)
                .lay(1, 0, 0, 1, 20, 31)
                .due("diary(1, 0, 0)", 8)
                .lay(1, 0, 0, 1, 20, 30)
                .due("diary(1, 0, 0)", 0)
                .lay(1, 0, 1)
                .due("diary(1, 0, 0)", 0);
    }

    private static void whoseOfNoneAndAll() {
        Run run = run("DIARY: whose it is: THINGS (bits)").lay(1, 0, 7).due("diary(1, 0, 0)", 0);
        for (int i = 0; i < 6; i++) {
            run.make("thing(0, 0, 6007)").due("diary(1, 0, 0)", (2 << i) - 1);
        }
        run.make("set(3, 0, 8)", "set(3, 5, 6)").due("diary(1, 0, 0)", 30);
    }

    private static void kinds() {
        run("DIARY: KINDS (bits 0 .. 5) by which, were they one's, one would")
                .make("thing(0, 0, 6000)", "thing(3, 4, 905)", "thing(5, 9, 6059)")
                .lay(1, 0, 0)
                .due("diary(1, 1, 0)", 63)
                .lay(1, 0, 0, 30)
                .due("diary(1, 1, 0)", 32)
                .lay(1, 0, 0, 59)
                .due("diary(1, 1, 0)", 8)
                .lay(1, 0, 5)
                .due("diary(1, 1, 1)", 1 + 2 + 4 + 16)
                .lay(1, 0, 5, 14)
                .due("diary(1, 1, 1)", 1 + 4 + 16)
                .lay(1, 0, 4)
                .due("diary(1, 1, 1)", 8 + 32)
                .lay(1, 0, 4, 5, 14)
                .due("diary(1, 1, 1)", 32)
                .lay(1, 0, 4, 5, 6, 7, 8, 9)
                .due("diary(1, 1, 1)", 8)
                .lay(1, 0, 3)
                .due("diary(1, 1, 1)", 0)
                .due("told(1, 0)", 3)
                .lay(1, 0, 59)
                .due("diary(1, 1, 2)", 1 + 2 + 4 + 16);
    }

    private static void periodsOfOneDay() {
        for (int day : new int[] {0, 1, 59, 60, 399}) {
            run("PERIODS (one DAY alone: all)").lay(1, 1, day).due("rounds(1, 0)", ALL_PERIODS);
        }
    }

    private static void periodsOneTo60() {
        String sentence = "PERIODS (bits 0 .. 59, of 1 .. 60) by which each told DAY is that many behind the one ahead";
        for (int period = 1; period <= 60; period++) {
            run(sentence).lay(1, 1, 9, 9 + period, 9 + 2 * period).due("rounds(1, 0)", 1L << (period - 1));
        }
        run(sentence).lay(1, 1, 0, 60).due("rounds(1, 0)", 1L << 59);
        run(sentence).lay(1, 1, 0, 61).due("rounds(1, 0)", 0);
        run(sentence).lay(1, 1, 0, 64).due("rounds(1, 0)", 0);
        run(sentence).lay(1, 1, 0, 65, 130).due("rounds(1, 0)", 0);
        run(sentence).lay(1, 1, 0, 399).due("rounds(1, 0)", 0);
        run(sentence).lay(1, 1, 0, 5, 11).due("rounds(1, 0)", 0);
        run(sentence).lay(1, 1, 0, 5, 10, 16).due("rounds(1, 0)", 0);
        run(sentence).lay(1, 1, 0, 6, 11, 16).due("rounds(1, 0)", 0);
    }

    private static void twoRoundsOfOneDay() {
        for (int day : new int[] {0, 1, 60, 399}) {
            run("TWO ROUNDS: if none is, q may be any: of one DAY").lay(1, 1, day).due("rounds(1, 1)", 3600);
        }
    }

    private static void twoRoundsOneTo60() {
        String sentence = "TWO ROUNDS: pairs of PERIODS p, q (1 .. 60 each)";
        run(sentence).lay(1, 1, 0, 60).due("rounds(1, 1)", 60);
        run(sentence).lay(1, 1, 0, 61).due("rounds(1, 1)", 0);
        // by 60 then 1, 61 by 60
        run(sentence).lay(1, 1, 0, 1, 60, 61).due("rounds(1, 1)", 1);
        // neither 0, 61 nor 1, 62 is a round of at most 60
        run(sentence).lay(1, 1, 0, 1, 61, 62).due("rounds(1, 1)", 0);
        // by 60 then 50 by 50; by 50 then 60 by 60
        run(sentence).lay(1, 1, 0, 50, 60, 100, 120).due("rounds(1, 1)", 2);
    }

    private static void twoRoundsOfTheFirstAlone() {
        String sentence = "TWO ROUNDS: DAYS that are 0, p, 2 p, .. behind the first told one; if none is none of"
                + " these, q may be any";
        // by 1 any q; by 2 .. 60 then the second DAY alone, again by any q
        run(sentence).lay(1, 1, 0, 1).due("rounds(1, 1)", 60 + 59 * 60);
        run(sentence).lay(1, 1, 398, 399).due("rounds(1, 1)", 60 + 59 * 60);
        // by 1 any q; by 2 then 1 by any (by 1 it is 1, 2); by 3 .. 60 then 1 by 1
        run(sentence).lay(1, 1, 0, 1, 2).due("rounds(1, 1)", 60 + 60 + 58);
        // by 20 any q; by 40 then 20 by 20 or 40; by 60 then 20 by 20; by others a DAY between
        run(sentence).lay(1, 1, 0, 20, 40, 60).due("rounds(1, 1)", 60 + 2 + 1);
    }

    private static void twoRoundsUpToTheLast() {
        String sentence = "TWO ROUNDS: these make just the told DAYS, of all up to the last";
        // by 5 any q; by 6 .. 60 then 5 by any
        run(sentence).lay(1, 1, 0, 5).due("rounds(1, 1)", 60 + 55 * 60);
        // by 4 or less a DAY between is made that isn't told; by 5, 6 one is left; by 7 .. 60 then 15 by 1
        run(sentence).lay(1, 1, 10, 15, 16).due("rounds(1, 1)", 60 + 60 + 54);
        // by 2 3 is left; by 3 then 2 by 1 or 2; by 4 then 2 by 1; by 5 .. 60 then 2 by 1
        run(sentence).lay(1, 1, 0, 2, 3, 4).due("rounds(1, 1)", 60 + 2 + 1 + 56);
        // what would be made behind the last told one does not matter
        run(sentence).lay(1, 1, 3, 13, 14).due("rounds(1, 1)", 60 + 60 + 49);
    }

    private static void theSecondBeginsOnTheFirstThatIsNot() {
        String sentence = "TWO ROUNDS: DAYS that are 0, q, 2 q, .. behind the first that isn't";
        // by 7 15 is the first that is left; by no other is there a q
        run(sentence).lay(1, 1, 3, 10, 15, 17, 20, 24, 25).due("rounds(1, 1)", 1);
        // by 7 8, 13, 23 are left, but 18 is not told
        run(sentence).lay(1, 1, 3, 8, 10, 13, 17, 23, 24).due("rounds(1, 1)", 0);
        run(sentence).lay(1, 1, 3, 5, 10, 15, 17, 20, 24, 25).due("rounds(1, 1)", 1);
        run(sentence).lay(1, 1, 3, 5, 10, 15, 17, 20, 24).due("rounds(1, 1)", 1);
    }

    private static void diaryRefuses() {
        String sentence = "diary: BAD: SHEET, what, thing (of 1); -11; BAD: what it tells";
        run(sentence)
                .make("thing(0, 0, 100)")
                .allDue(-2, "diary(-1, 0, 0)", "diary(4, 0, 0)", "diary(MIN, 1, 0)", "diary(MAX, 0, 0)",
                        "diary(0, -1, 0)", "diary(0, 2, 0)", "diary(0, MIN, 0)", "diary(0, MAX, 0)",
                        "diary(0, 1, -1)", "diary(0, 1, 1)", "diary(0, 1, 6)", "diary(0, 1, MIN)",
                        "diary(0, 1, MAX)", "diary(4, 1, 1)", "diary(4, 2, 0)")
                .allDue(-11, "diary(0, 0, 0)", "diary(3, 0, 0)", "diary(0, 0, -1)", "diary(0, 0, 1)",
                        "diary(0, 0, MAX)", "diary(0, 1, 0)")
                .lay(0, 0)
                .allDue(-2, "diary(0, 0, 0)", "diary(0, 1, 0)", "diary(0, 1, 1)", "diary(0, 2, 0)")
                .lay(0, 0, 0, 1, 2)
                .allDue(-2, "diary(0, 2, 0)", "diary(0, -1, 0)", "diary(0, 1, 1)", "diary(0, 1, -1)")
                .allDue(1, "diary(0, 0, 0)", "diary(0, 0, 9)", "diary(0, 0, MIN)")
                .due("diary(0, 1, 0)", 1 + 2 + 4 + 8 + 16 + 32);
    }

    private static void roundsRefuse() {
        run("rounds: NO: SHEET, what; it is missing; as of diary()")
                .allDue(NO, "rounds(-1, 0)", "rounds(4, 0)", "rounds(MIN, 1)", "rounds(MAX, 0)", "rounds(0, 0)",
                        "rounds(3, 1)")
                .lay(0, 1, 1, 2)
                .allDue(NO, "rounds(0, -1)", "rounds(0, 2)", "rounds(0, MIN)", "rounds(0, MAX)", "rounds(1, 0)")
                .due("rounds(0, 0)", 1)
                .due("rounds(0, 1)", 3600)
                .make("sheet(0, 1, 0)")
                .allDue(NO, "rounds(0, 0)", "rounds(0, 1)")
                .make("sheet(0, -1, 0)")
                .allDue(NO, "rounds(0, 0)", "rounds(0, 1)");
    }

    private static void filmOfDays() {
        String sentence = "film: the first n DAYS (1 .. 20) of THE YEAR (shorts): how many";
        run(sentence).make("thing(0, 0, 1000)").due("film(0, 0, 1)", 1).items(0, 1, 1, 0);
        run(sentence).make("thing(0, 0, 2019)").due("film(3, 0, 20)", 20)
                .due("copy(3, 20, 3, 0, 0)", 0)
                .due("copy(3, 21, 3, 0, 0)", -12)
                .items(3, 1, 1, 19, 39, 59, 79, 99, 119, 139, 159, 179, 199, 219, 239, 259, 279, 299, 319, 339, 359,
                        379, 399);
        run(sentence).make("thing(0, 0, 100)").due("film(0, 0, 20)", 20)
                .items(0, 1, 1, 0, 1, 2, 3, 4, 5, 6, 7, 8, 9, 10, 11, 12, 13, 14, 15, 16, 17, 18, 19);
    }

    private static void filmFromDayZero() {
        run("film: the first DAYS of THE YEAR: a DOUBLE comes ahead of DAY 0 as little as any")
                .make("thing(3, 0, 2000)", "thing(3, 0, 2001)")
                .due("film(0, 0, 4)", 4)
                .items(0, 1, 1, 0, 19, 20, 39)
                .due("film(0, 1, 4)", 4)
                .items(0, 1, 1, 0, 1, 20, 21)
                .due("when(0, 0)", 0)
                .due("often(0, 1)", 1)
                .due("often(0, 20)", 2);
    }

    private static void filmOfFewer() {
        String sentence = "film: (fewer, if there are no more)";
        run(sentence).make("thing(0, 0, 6039)").due("film(0, 0, 20)", 7)
                .items(0, 1, 1, 39, 99, 159, 219, 279, 339, 399);
        run(sentence).make("thing(0, 0, 6039)").due("film(0, 0, 7)", 7).due("film(0, 0, 8)", 7)
                .due("film(0, 0, 6)", 6).items(0, 1, 1, 39, 99, 159, 219, 279, 339);
        run(sentence + ": none at all").make("thing(4, 0, 100)", "set(0, 0, 127)").lay(0, 2, 5, 6, 7)
                .due("film(0, 0, 20)", 0).items(0, 1, 1).due("diary(0, 0, 0)", -2).due("rounds(0, 0)", NO);
    }

    private static void filmRefuses() {
        run("film: BAD")
                .due("film(0, 0, 1)", -2)
                .due("cell(0, 0, 0)", -11)
                .make("thing(0, 0, 100)")
                .lay(0, 2, 7, 8)
                .allDue(-2, "film(-1, 0, 1)", "film(4, 0, 1)", "film(MIN, 0, 1)", "film(MAX, 0, 1)", "film(0, -1, 1)",
                        "film(0, 1, 1)", "film(0, 6, 1)", "film(0, MIN, 1)", "film(0, MAX, 1)", "film(0, 0, 0)",
                        "film(0, 0, -1)", "film(0, 0, 21)", "film(0, 0, MIN)", "film(0, 0, MAX)")
                .items(0, 1, 2, 7, 8);
    }

    private static void drawnByASeed() {
        // by 0: z is 12345, and 12345 by 512 is 24: holidays 3 and 4
        run("DRAWN by a SEED: costs of THE YEAR, HOLIDAYS would be (z >>> 9) % 128")
                .due("drawn(0)", 0)
                .make("thing(4, 0, 100)", "set(0, 0, 1)")
                .due("drawn(0)", 2 * (400 - 2 * 57))
                .due("count(1)", 1)
                .due("year(0)", 2 * 342)
                .make("set(0, 0, 24)")
                .due("year(0)", 2 * (400 - 2 * 57));
    }

    private static void drawnByNegativeNumbers() {
        String sentence = "DRAWN: z = SEED * 1103515245 + 12345 (an int): (z >>> 9) % 128";
        // by the last six z is 0 or 511 modulo 512: one more or less would draw other holidays
        int[] seeds = {1, 2, -1, -2, 3, 7, 1000, -1000, 123456789, Integer.MAX_VALUE, Integer.MIN_VALUE,
            Integer.MIN_VALUE + 1, 2071770755, -941059965, 2088216195, -1933391074, -1999172834, -1916945634};
        for (int seed : seeds) {
            long z = (seed * 1103515245L + 12345L) & 0xFFFFFFFFL;
            long holidays = z / 512 % 128;
            Run run = run(sentence).make("thing(4, 0, 100)", "thing(2, 0, 905)", "thing(4, 0, 702)");
            long drawn = run.answer("drawn(" + seed + ")");
            run.due("count(1)", 0).make("set(0, 0, " + holidays + ")").due("year(0)", drawn);
        }
    }

    private static void chanceOfSeeds() {
        String sentence = "IN n seeds (1 .. 20): of these those by which there is no DAY with two or more";
        run(sentence).make("thing(0, 0, 100)").due("chance(5, 1, 0)", 1).due("chance(5, 1, 1)", 1)
                .due("chance(5, 20, 0)", 1).due("chance(5, 20, 1)", 1);
        run(sentence).make("thing(0, 0, 6000)", "thing(0, 0, 6000)").due("chance(5, 1, 0)", 0)
                .due("chance(5, 1, 1)", 1).due("chance(5, 20, 0)", 0).due("chance(5, 20, 1)", 1);
        run(sentence + ": no THINGS").due("chance(5, 20, 0)", 1).due("chance(5, 20, 1)", 1);
        // they share day 399 alone, which is 0 of its week; day 400 is none of the year
        run(sentence + ": DAY 399 is one").make("thing(0, 0, 5049)", "thing(0, 0, 5945)")
                .due("chance(5, 20, 0)", 0);
        run(sentence + ": DAY 400 is none").make("thing(0, 0, 5000)", "thing(0, 0, 5946)")
                .due("chance(5, 20, 0)", 1);
        run(sentence + ": DAY 0 is one").make("thing(0, 0, 6000)", "thing(0, 0, 5900)").due("chance(5, 20, 0)", 0);
    }

    /** Two that share the days 2, 9, .. alone: calm by seeds whose holidays have bit 2. */
    private static Run twoOnDayTwo(String sentence) {
        return run(sentence).make("thing(0, 0, 702)", "thing(4, 0, 702)");
    }

    private static boolean isCalm(int seed) {
        long z = (seed * 1103515245L + 12345L) & 0xFFFFFFFFL;
        return (z / 512 % 128 & 4) != 0;
    }

    private static void dueChance(Run run, int seed, int n) {
        int calm = 0;
        for (int i = 0; i < n; i++) {
            calm += isCalm(seed + i) ? 1 : 0;
        }
        int divisor = n;
        while (calm % divisor != 0 || n % divisor != 0) {
            divisor--;
        }
        run.due("chance(" + seed + ", " + n + ", 0)", calm / divisor);
        run.due("chance(" + seed + ", " + n + ", 1)", n / divisor);
    }

    private static void chanceWrapsAround() {
        Run run = twoOnDayTwo("IN n seeds: SEED and each 1 more (an int)");
        for (int seed = Integer.MAX_VALUE - 25; seed != Integer.MIN_VALUE; seed++) {
            dueChance(run, seed, 1);
            dueChance(run, seed, 20);
        }
        dueChance(run, Integer.MAX_VALUE, 2);
        dueChance(run, Integer.MIN_VALUE, 20);
        dueChance(run, -1, 2);
        dueChance(run, -20, 20);
    }

    private static void chanceInLowestTerms() {
        Run run = twoOnDayTwo("chance: part 0 above, 1 below the line, in lowest terms");
        for (int seed = 0; seed < 10; seed++) {
            for (int n = 1; n <= 20; n++) {
                dueChance(run, seed, n);
            }
        }
    }

    private static void chanceRefuses() {
        run("chance: NO: n, part")
                .allDue(NO, "chance(0, 0, 0)", "chance(0, -1, 0)", "chance(0, 21, 0)", "chance(0, MIN, 0)",
                        "chance(0, MAX, 1)", "chance(0, 1, -1)", "chance(0, 1, 2)", "chance(0, 20, MIN)",
                        "chance(0, 20, MAX)", "chance(0, 0, 2)")
                .allDue(1, "chance(0, 1, 0)", "chance(0, 20, 1)", "chance(MIN, 1, 1)", "chance(MAX, 20, 1)");
    }

    private static void noImage() {
        run("back: STATE: there is none").due("back()", -3).make("thing(0, 0, 100)").due("back()", -3)
                .due("count(0)", 1).due("image()", 1).due("back()", 1);
    }

    private static void imageOfNothing() {
        run("AN IMAGE: of no THINGS").due("image()", 0)
                .make("thing(0, 0, 100)", "thing(0, 0, 100)", "set(0, 0, 5)")
                .due("back()", 0).due("count(0)", 0).due("count(1)", 0).due("told(0, 0)", -2)
                .due("thing(5, 0, 100)", 0).due("told(0, 0)", 5);
    }

    private static void whatAnImageKeeps() {
        run("AN IMAGE keeps HOLIDAYS, NUMBERS, PERIODS, BEGINS, THE RULE")
                .make("thing(1, 2, 304)", "thing(0, 0, 100)", "thing(0, 0, 100)", "thing(0, 0, 100)",
                        "thing(0, 0, 100)", "thing(3, 9, 6059)", "set(0, 0, 65)")
                .rule("costs 2;crowds 0;minds 0;")
                .due("image()", 6)
                .make("set(0, 0, 1)", "set(1, 0, 5)", "set(2, 0, 6)", "set(3, 0, 7)", "set(1, 5, 5)", "set(2, 5, 6)",
                        "set(3, 5, 7)", "force(0)")
                .due("back()", 6)
                .due("count(1)", 65)
                .due("count(4)", 1)
                .due("told(0, 0)", 1)
                .due("told(0, 1)", 2)
                .due("told(0, 2)", 3)
                .due("told(0, 3)", 4)
                .due("told(5, 0)", 3)
                .due("told(5, 1)", 9)
                .due("told(5, 2)", 60)
                .due("told(5, 3)", 59);
    }

    private static void thingsThatCameSinceGo() {
        Run run = run("AN IMAGE (THINGS that came since go)").make("thing(1, 2, 304)").due("image()", 1);
        for (int i = 1; i < 6; i++) {
            run.due("thing(5, 5, 505)", i);
        }
        run.due("thing(5, 5, 505)", -4)
                .due("back()", 1)
                .due("count(0)", 1)
                .allDue(-2, "told(1, 0)", "told(5, 0)", "when(1, 0)", "set(1, 1, 0)", "why(2)")
                .due("taken(1, 0)", -11)
                .due("day(5, 0)", 1)
                .due("full(1)", 3)
                .due("thing(2, 7, 808)", 1)
                .due("told(1, 0)", 2)
                .due("told(1, 1)", 7)
                .due("told(1, 2)", 8)
                .due("told(1, 3)", 8);
    }

    private static void theImageStays() {
        run("All that it keeps is as in THE IMAGE: each time anew")
                .make("thing(0, 1, 202)")
                .due("image()", 1)
                .make("set(1, 0, 5)")
                .due("back()", 1)
                .due("told(0, 1)", 1)
                .make("set(1, 0, 6)", "thing(0, 0, 100)")
                .due("back()", 1)
                .due("told(0, 1)", 1)
                .make("set(1, 0, 7)", "thing(0, 0, 100)")
                .due("image()", 2)
                .make("set(1, 0, 8)")
                .due("back()", 2)
                .due("told(0, 1)", 7)
                .due("count(0)", 2);
    }

    private static void whatStaysAsItIs() {
        run("AN IMAGE keeps neither TEXTS nor THE TAPE nor SHEETS")
                .make("thing(0, 0, 100)")
                .due("image()", 1)
                .text("costs 7;crowds 0;minds 0;", 1)
                .feed("costs 8;crowds 0;minds 0")
                .lay(0, 1, 7, 9)
                .make("force(1)")
                .due("back()", 1)
                .due("count(2)", 2)
                .due("count(3)", 24)
                .due("count(4)", 0)
                .items(0, 1, 1, 7, 9)
                .make("force(1)")
                .due("day(0, 1)", 7)
                .text(";", 2)
                .make("force(2)")
                .due("day(0, 1)", 8);
    }

    private static void counts() {
        Run run = run("count: 0 THINGS, 1 HOLIDAYS, 2 TEXTS, 3 bytes of THE TAPE, 4 THE RULE. BAD.");
        run.allDue(-2, "count(-1)", "count(5)", "count(MIN)", "count(MAX)")
                .allDue(0, "count(0)", "count(1)", "count(3)", "count(4)")
                .due("count(2)", 1);
        for (int i = 1; i <= 5; i++) {
            run.text("costs 1;crowds 0;minds 0;", i);
        }
        for (int i = 0; i < 6; i++) {
            run.make("thing(0, 0, 100)");
        }
        run.make("set(0, 0, 127)", "force(5)").feed(" ".repeat(160))
                .due("count(0)", 6)
                .due("count(1)", 127)
                .due("count(2)", 6)
                .due("count(3)", 160)
                .due("count(4)", 5)
                .allDue(-2, "count(-1)", "count(5)");
    }
}
