/** Promises 19 to 26: diary, rounds, film, drawn, chance, image, back, count. */
public final class DiariesTest {
    private static final Check CHECK = new Check("DiariesTest");
    private static final long NO = -4611686018427387904L;
    private static final long ALL_PERIODS = (1L << 60) - 1;

    public static void main(String[] args) {
        whoseDiaryItIs();
        kindsOfADiary();
        diaryRefuses();
        periodsOfADiary();
        twoRoundsOfADiary();
        roundsRefuse();
        filmTells();
        filmMakesTheSheet();
        filmRefuses();
        drawnHolidays();
        chancesOfSeeds();
        imagesAndBack();
        whatAnImageDoesNotKeep();
        counts();
        CHECK.end();
    }

    private static void whoseDiaryItIs() {
        EveryNinth x = new EveryNinth();
        x.thing(0, 0, 905);
        x.thing(1, 1, 905);
        x.thing(4, 0, 905);
        x.thing(0, 0, 4505);
        x.set(0, 0, 4);
        // 5, 14, 23 (2 modulo 7), 32
        Check.lay(x, 0, 1, 5, 14);
        CHECK.due("5, 14", x.diary(0, 0, 99), 5);
        Check.lay(x, 0, 2, 5, 14, 23);
        CHECK.due("5, 14, 23", x.diary(0, 0, -1), 1);
        Check.lay(x, 0, 2, 5, 14, 32);
        CHECK.due("5, 14, 32", x.diary(0, 0, 0), 4);
        Check.lay(x, 0, 2, 5, 6, 14, 15);
        CHECK.due("5, 6, 14, 15", x.diary(0, 0, 0), 2);
        Check.lay(x, 0, 0, 5);
        CHECK.due("5: all that come for the first time then", x.diary(0, 0, 0), 15);
        Check.lay(x, 0, 0, 14);
        CHECK.due("14 alone", x.diary(0, 0, 0), 0);
        Check.lay(x, 0, 0, 5, 15);
        CHECK.due("5, 15", x.diary(0, 0, 0), 0);
        Check.lay(x, 0, 0, 0);
        CHECK.due("0", x.diary(0, 0, 0), 0);
        Check.lay(x, 0, 1, 5, 50, 95, 140, 185, 230, 275, 320, 365);
        CHECK.due("5, 50, ..", x.diary(0, 0, 0), 8);
        Check.lay(x, 0, 1, 5, 399);
        CHECK.due("5, 399", x.diary(0, 0, 0), 0);
    }

    private static void kindsOfADiary() {
        EveryNinth x = new EveryNinth();
        x.thing(5, 0, 905);
        x.thing(0, 5, 905);
        Check.lay(x, 0, 0, 5, 14, 23);
        CHECK.due("number 0, no holidays: thing, lasting, put off, skipped", x.diary(0, 1, 0), 1 + 2 + 4 + 16);
        CHECK.due("number 5: fixed on 5, too", x.diary(0, 1, 1), 1 + 4 + 16 + 32);
        x.set(0, 0, 1);
        // 14 is a holiday
        CHECK.due("14 is a holiday", x.diary(0, 1, 1), 1 + 32);
        Check.lay(x, 0, 0, 5, 15, 23);
        CHECK.due("put off", x.diary(0, 1, 1), 4);
        Check.lay(x, 0, 0, 5, 23);
        CHECK.due("skipped", x.diary(0, 1, 1), 16);
        Check.lay(x, 0, 0, 5, 14, 23, 32, 35);
        CHECK.due("fixed", x.diary(0, 1, 1), 32);
        Check.lay(x, 0, 0, 4, 5, 13, 14);
        CHECK.due("double, number 0", x.diary(0, 1, 0), 8);
        Check.lay(x, 0, 0, 5, 6, 7, 8, 9, 10, 14, 15);
        CHECK.due("lasting, number 5", x.diary(0, 1, 1), 2);
        CHECK.due("its kind stays", x.told(1, 0), 0);
        Check.lay(x, 0, 0, 3);
        CHECK.due("none", x.diary(0, 1, 1), 0);
    }

    private static void diaryRefuses() {
        EveryNinth x = new EveryNinth();
        x.thing(0, 0, 100);
        CHECK.due("no such sheet", x.diary(4, 0, 0), -2);
        CHECK.due("no such sheet", x.diary(-1, 0, 0), -2);
        CHECK.due("no such sheet", x.diary(Integer.MIN_VALUE, 0, 0), -2);
        CHECK.due("missing", x.diary(0, 0, 0), -11);
        CHECK.due("missing", x.diary(3, 1, 0), -11);
        CHECK.due("what ahead of missing", x.diary(0, 2, 0), -2);
        CHECK.due("what ahead of missing", x.diary(0, -1, 0), -2);
        CHECK.due("thing ahead of missing", x.diary(0, 1, 1), -2);
        CHECK.due("thing ahead of missing", x.diary(0, 1, -1), -2);
        CHECK.due("of what 0 thing does not matter", x.diary(0, 0, 9), -11);
        noDiary(x, "tells none");
        noDiary(x, "not rising", 5, 5);
        noDiary(x, "falling", 5, 4);
        noDiary(x, "falling at last", 5, 6, 7, 6);
        noDiary(x, "no day", -1);
        noDiary(x, "no day", 400);
        noDiary(x, "no day at last", 0, 1, 400);
        noDiary(x, "no day", Integer.MIN_VALUE, 0);
        noDiary(x, "no day", Integer.MAX_VALUE);
        int[] many = new int[21];
        for (int i = 0; i < 21; i++) {
            many[i] = i;
        }
        noDiary(x, "21 days", many);
        noDiary(x, "40 items", new int[40]);
        Check.lay(x, 0, 0, 200);
        CHECK.due("a byte keeps 8 bits: 200 is -56", x.diary(0, 0, 0), -2);
        Check.lay(x, 0, 1, 65536 + 0);
        CHECK.due("a short keeps 16 bits", x.diary(0, 0, 0), 1);
        x.set(2, 0, 20);
        Check.lay(x, 0, 1, 0, 20, 40, 60, 80, 100, 120, 140, 160, 180, 200, 220, 240, 260, 280, 300, 320, 340, 360, 380);
        CHECK.due("20 days", x.diary(0, 0, 0), 1);
        CHECK.due("thing of 1", x.diary(0, 1, 1), -2);
        Check.lay(x, 1, 1, 0, 20, 399);
        CHECK.due("up to the last day", x.diary(1, 0, 0), 0);
    }

    private static void noDiary(EveryNinth x, String why, int... days) {
        Check.lay(x, 1, 2, days);
        CHECK.due("diary: " + why, x.diary(1, 0, 0), -2);
        CHECK.due("diary of kinds: " + why, x.diary(1, 1, 0), -2);
        CHECK.due("rounds: " + why, x.rounds(1, 0), NO);
        CHECK.due("two rounds: " + why, x.rounds(1, 1), NO);
        x.sheet(1, -1, 0);
    }

    private static void told(long periods, long pairs, int... days) {
        EveryNinth x = new EveryNinth();
        Check.lay(x, 2, 2, days);
        StringBuilder what = new StringBuilder("of");
        for (int day : days) {
            what.append(' ').append(day);
        }
        CHECK.due("rounds(2, 0) " + what, x.rounds(2, 0), periods);
        CHECK.due("rounds(2, 1) " + what, x.rounds(2, 1), pairs);
    }

    private static void periodsOfADiary() {
        told(ALL_PERIODS, 3600, 0);
        told(ALL_PERIODS, 3600, 399);
        told(1L << 8, 88, 5, 14, 23, 32, 41);
        told(1L << 59, 60, 0, 60, 120);
        told(0, 0, 0, 61);
        // by 11 only 5 is left: 6 tells 11, 7 .. 60 tell no more; by 12 .. 60 then 5, 11 by 6
        told(0, 55 + 49, 0, 5, 11);
        told(0, 1, 0, 2, 4, 7);
        told(1, 3600, 7, 8);
    }

    private static void twoRoundsOfADiary() {
        // 7, 8: by period 1 any second one; by 2 .. 60 the second begins on 8 itself, any will do
        told(1, 60 + 59 * 60, 7, 8);
        // by 2 only 7 is left, from which any will do; by 7 (0, 7) then 2, 4, 6, 8 by 2
        told(0, 60 + 1, 0, 2, 4, 6, 7, 8);
        // by 5 only 11 is left; by 10 then 5, 11 by 6; by 11 then 5, 10 by 5
        told(0, 60 + 1 + 1, 0, 5, 10, 11);
        // from 0 on 100 days of nothing: each period tells a day between
        told(0, 0, 0, 100);
        // 3, 10, 17, 24 and 5, 10, 15, 20, 25
        told(0, 1, 3, 5, 10, 15, 17, 20, 24, 25);
    }

    private static void roundsRefuse() {
        EveryNinth x = new EveryNinth();
        Check.lay(x, 0, 0, 1, 2);
        CHECK.due("no such sheet", x.rounds(-1, 0), NO);
        CHECK.due("no such sheet", x.rounds(4, 0), NO);
        CHECK.due("no such sheet", x.rounds(Integer.MAX_VALUE, 0), NO);
        CHECK.due("what", x.rounds(0, -1), NO);
        CHECK.due("what", x.rounds(0, 2), NO);
        CHECK.due("missing", x.rounds(1, 0), NO);
        CHECK.due("missing", x.rounds(1, 1), NO);
        CHECK.due("sound", x.rounds(0, 0), 1);
    }

    private static void filmTells() {
        EveryNinth x = new EveryNinth();
        x.thing(0, 0, 905);
        x.thing(1, 2, 1403);
        x.thing(0, 0, 6020);
        CHECK.due("film(0, 0, 5)", x.film(0, 0, 5), 5);
        CHECK.due("whose", x.diary(0, 0, 0), 1);
        CHECK.due("period 9", x.rounds(0, 0), 1L << 8);
        CHECK.due("film(1, 1, 20)", x.film(1, 1, 20), 20);
        CHECK.due("whose", x.diary(1, 0, 0), 2);
        CHECK.due("film(2, 2, 20): there are no more", x.film(2, 2, 20), 7);
        CHECK.due("whose", x.diary(2, 0, 0), 4);
        CHECK.due("film(3, 0, 1)", x.film(3, 0, 1), 1);
        CHECK.due("whose", x.diary(3, 0, 0), 1);
        x.set(3, 0, 0);
        CHECK.due("film(3, 0, 2): from day 0 on", x.film(3, 0, 2), 2);
        CHECK.due("whose", x.diary(3, 0, 0), 1);
        x.set(3, 2, 39);
        CHECK.due("film(2, 2, 20)", x.film(2, 2, 20), 7);
        CHECK.due("up to day 399, in shorts", x.diary(2, 0, 0), 4);
    }

    private static void filmMakesTheSheet() {
        EveryNinth x = new EveryNinth();
        x.thing(0, 0, 6020);
        x.thing(4, 0, 100);
        x.set(0, 0, 127);
        CHECK.due("a missing sheet", x.film(0, 0, 3), 3);
        CHECK.due("three items", x.cell(0, 2, 140), 1);
        CHECK.due("three items", x.cell(0, 3, 140), -12);
        x.sheet(1, 1, 3);
        CHECK.due("they are shorts", x.copy(0, 0, 1, 0, 3), 3);
        x.sheet(1, 2, 40);
        CHECK.due("ints before", x.film(1, 0, 2), 2);
        CHECK.due("shorts then", x.copy(1, 0, 0, 0, 2), 2);
        CHECK.due("two items", x.copy(1, 0, 0, 0, 3), -12);
        CHECK.due("of none", x.film(1, 1, 20), 0);
        CHECK.due("a row of none is not missing", x.cell(1, 0, 0), -12);
        CHECK.due("which tells none", x.diary(1, 0, 0), -2);
        CHECK.due("which is of shorts", x.copy(1, 0, 0, 0, 0), 0);
    }

    private static void filmRefuses() {
        EveryNinth x = new EveryNinth();
        x.thing(0, 0, 100);
        Check.lay(x, 0, 2, 7);
        int[][] bad = {{4, 0, 1}, {-1, 0, 1}, {0, 1, 1}, {0, -1, 1}, {0, 0, 0}, {0, 0, -1}, {0, 0, 21},
            {Integer.MAX_VALUE, 0, 1}, {0, Integer.MIN_VALUE, 1}, {0, 0, Integer.MAX_VALUE}, {0, 0, Integer.MIN_VALUE}};
        for (int[] b : bad) {
            CHECK.due("film(" + b[0] + ", " + b[1] + ", " + b[2] + ")", x.film(b[0], b[1], b[2]), -2);
        }
        CHECK.due("the sheet is as it was", x.rounds(0, 0), ALL_PERIODS);
        CHECK.due("of one item", x.cell(0, 1, 0), -12);
    }

    private static void drawnHolidays() {
        // seeds and the holidays that they would give
        int[][] known = {{0, 24}, {5, 92}, {2, 102}, {-1, 112}};
        for (int[] k : known) {
            EveryNinth x = new EveryNinth();
            x.thing(2, 0, 501);
            x.thing(4, 0, 302);
            x.thing(0, 0, 400);
            x.set(0, 0, 1);
            int was = x.year(0);
            int drawn = x.drawn(k[0]);
            CHECK.due("drawn() changes nothing", x.count(1), 1);
            CHECK.due("drawn() changes nothing", x.year(0), was);
            x.set(0, 0, k[1]);
            CHECK.due("drawn(" + k[0] + ")", drawn, x.year(0));
        }
        for (int i = 0; i < 400; i++) {
            EveryNinth many = new EveryNinth();
            many.thing(4, 0, 100);
            many.thing(2, 0, 905);
            int seed = i < 200 ? i : i * 98765431;
            long z = (seed * 1103515245L + 12345L) & 0xFFFFFFFFL;
            int drawn = many.drawn(seed);
            many.set(0, 0, (int) (z / 512 % 128));
            CHECK.due("drawn(" + seed + ")", drawn, many.year(0));
        }
        EveryNinth none = new EveryNinth();
        CHECK.due("drawn() of no things", none.drawn(Integer.MIN_VALUE), 0);
        EveryNinth daily = new EveryNinth();
        daily.thing(4, 0, 100);
        // 24: two holidays a week; days 3, 4 of each: 57 weeks and day 399
        CHECK.due("drawn(0)", daily.drawn(0), 2 * (57 * 5 + 1));
    }

    private static void chancesOfSeeds() {
        EveryNinth x = new EveryNinth();
        CHECK.due("of no things: 1", x.chance(7, 20, 0), 1);
        CHECK.due("by 1", x.chance(7, 20, 1), 1);
        // on day 2, 9, .. two come, but for holidays
        x.thing(0, 0, 702);
        x.thing(4, 0, 702);
        boolean[] calm = new boolean[40];
        int all = 0;
        for (int seed = 0; seed < 40; seed++) {
            calm[seed] = (((int) (seed * 1103515245L + 12345L)) >>> 11 & 1) == 1;
            all += calm[seed] ? 1 : 0;
            CHECK.due("chance(" + seed + ", 1, 0)", x.chance(seed, 1, 0), calm[seed] ? 1 : 0);
            CHECK.due("chance(" + seed + ", 1, 1)", x.chance(seed, 1, 1), 1);
        }
        CHECK.holds("some of these seeds are calm, some not", all > 0 && all < 40);
        for (int n = 1; n <= 20; n++) {
            int good = 0;
            for (int seed = 9; seed < 9 + n; seed++) {
                good += calm[seed] ? 1 : 0;
            }
            int divisor = n;
            while (good % divisor != 0 || n % divisor != 0) {
                divisor--;
            }
            CHECK.due("chance(9, " + n + ", 0)", x.chance(9, n, 0), good / divisor);
            CHECK.due("chance(9, " + n + ", 1)", x.chance(9, n, 1), n / divisor);
        }
        long wrapped = x.chance(Integer.MAX_VALUE, 1, 0) + x.chance(Integer.MIN_VALUE, 1, 0);
        long above = x.chance(Integer.MAX_VALUE, 2, 0);
        long below = x.chance(Integer.MAX_VALUE, 2, 1);
        CHECK.due("seeds go on as ints", above * 2, wrapped * below);
        CHECK.due("the holidays stay", x.count(1), 0);
        int[][] bad = {{0, 0}, {21, 0}, {-1, 1}, {1, 2}, {1, -1}, {Integer.MIN_VALUE, 0}, {Integer.MAX_VALUE, 1}};
        for (int[] b : bad) {
            CHECK.due("chance(0, " + b[0] + ", " + b[1] + ")", x.chance(0, b[0], b[1]), NO);
        }
    }

    private static void imagesAndBack() {
        EveryNinth x = new EveryNinth();
        CHECK.due("back(): there is no image", x.back(), -3);
        CHECK.due("image() of nothing", x.image(), 0);
        x.thing(3, 9, 5030);
        CHECK.due("back()", x.back(), 0);
        CHECK.due("the thing went", x.count(0), 0);
        CHECK.due("it is none", x.told(0, 0), -2);
        CHECK.due("thing()", x.thing(3, 9, 5030), 0);
        x.thing(4, 0, 100);
        Check.read(x, "costs 2;crowds 0;minds 0;");
        x.set(0, 0, 62);
        x.force(1);
        CHECK.due("image()", x.image(), 2);
        x.set(0, 0, 1);
        x.set(1, 0, 1);
        x.set(2, 0, 2);
        x.set(3, 0, 3);
        x.set(1, 1, 4);
        x.force(0);
        x.thing(0, 0, 100);
        x.thing(0, 0, 100);
        CHECK.due("back()", x.back(), 2);
        CHECK.due("count(0)", x.count(0), 2);
        CHECK.due("holidays", x.count(1), 62);
        CHECK.due("the rule", x.count(4), 1);
        CHECK.due("number", x.told(0, 1), 9);
        CHECK.due("period", x.told(0, 2), 50);
        CHECK.due("begin", x.told(0, 3), 30);
        CHECK.due("kind", x.told(0, 0), 3);
        CHECK.due("number of the other", x.told(1, 1), 0);
        CHECK.due("kind of the other", x.told(1, 0), 4);
        CHECK.due("a new one comes behind them", x.thing(5, 7, 300), 2);
        CHECK.due("its kind", x.told(2, 0), 5);
        x.set(3, 0, 0);
        CHECK.due("the image stays", x.back(), 2);
        CHECK.due("begin", x.told(0, 3), 30);
        x.set(3, 0, 8);
        CHECK.due("a later image", x.image(), 2);
        x.set(3, 0, 9);
        CHECK.due("back()", x.back(), 2);
        CHECK.due("as in the later one", x.told(0, 3), 8);
    }

    private static void whatAnImageDoesNotKeep() {
        EveryNinth x = new EveryNinth();
        x.thing(0, 0, 100);
        x.image();
        Check.read(x, "costs 2;crowds 0;minds 0;");
        Check.feedAll(x, "abc");
        Check.lay(x, 0, 0, 4, 5);
        x.back();
        CHECK.due("texts stay", x.count(2), 2);
        CHECK.due("the tape stays", x.count(3), 3);
        CHECK.due("sheets stay", x.rounds(0, 0), 1);
    }

    private static void counts() {
        EveryNinth x = new EveryNinth();
        x.thing(0, 0, 100);
        x.thing(0, 0, 100);
        x.set(0, 0, 96);
        Check.read(x, "costs 2;crowds 0;minds 0;");
        Check.read(x, "costs 2;crowds 0;minds 0;");
        x.force(2);
        Check.feedAll(x, "costs");
        int[] want = {2, 96, 3, 5, 2};
        for (int what = 0; what < 5; what++) {
            CHECK.due("count(" + what + ")", x.count(what), want[what]);
        }
        CHECK.due("count(5)", x.count(5), -2);
        CHECK.due("count(-1)", x.count(-1), -2);
        CHECK.due("count(MIN)", x.count(Integer.MIN_VALUE), -2);
        CHECK.due("count(MAX)", x.count(Integer.MAX_VALUE), -2);
    }
}
