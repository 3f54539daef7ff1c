/** Promises 16 to 18: shift, join, goodShift. */
public final class ShiftingTest {
    private static final Check CHECK = new Check("ShiftingTest");

    public static void main(String[] args) {
        shiftFindsRoom();
        shiftGoesByComing();
        shiftRefuses();
        joinFindsADay();
        joinRefuses();
        goodShiftIsCheapest();
        goodShiftMinds();
        goodShiftRefuses();
        nothingTrulyShifts();
        CHECK.end();
    }

    private static void shiftFindsRoom() {
        CHECK.due("alone", Check.with(100).shift(0), 0);
        CHECK.due("two even ones", Check.with(200, 200).shift(0), 1);
        CHECK.due("odd and even", Check.with(200, 201).shift(1), 0);
        CHECK.due("daily beside another one", Check.with(100, 6000).shift(0), -1);
        CHECK.due("beside a daily one", Check.with(6000, 100).shift(0), -1);
        CHECK.due("9 and 14 share days whatever the begin", Check.with(905, 1403).shift(0), -1);
        EveryNinth x = Check.with(400, 400, 401, 402);
        CHECK.due("the fourth quarter", x.shift(0), 3);
        CHECK.due("of another one", x.shift(1), 3);
        CHECK.due("that is alone already", x.shift(2), 0);
        // 58 days on: 59 and 2 is 61, modulo 60 that is 1
        EveryNinth late = Check.with(6059, 6059, 6000);
        CHECK.due("past 59 it begins at 0 again", late.shift(0), 2);
        EveryNinth last = Check.with(6001, 100);
        last.set(2, 1, 60);
        last.set(3, 1, 1);
        CHECK.due("one day is enough", last.shift(0), 1);
    }

    private static void shiftGoesByComing() {
        EveryNinth x = new EveryNinth();
        x.thing(0, 0, 1400);
        x.thing(1, 3, 1400);
        CHECK.due("behind one that lasts", x.shift(0), 4);
        CHECK.due("one that lasts behind another", x.shift(1), 1);
        x.set(1, 1, 9);
        CHECK.due("behind one that lasts longer", x.shift(0), 10);
        EveryNinth skipped = new EveryNinth();
        skipped.thing(0, 0, 700);
        skipped.thing(4, 0, 700);
        skipped.set(0, 0, 1);
        CHECK.due("a skipped one never comes", skipped.shift(0), 0);
        CHECK.due("it itself", skipped.shift(1), 0);
        skipped.set(0, 0, 2);
        CHECK.due("it comes", skipped.shift(0), 1);
        EveryNinth atFirst = new EveryNinth();
        atFirst.thing(0, 0, 6000);
        atFirst.thing(4, 0, 6000);
        atFirst.set(0, 0, 126);
        CHECK.due("the other one comes on day 0 alone", atFirst.often(1, 400), 1);
        CHECK.due("to share day 0 is enough", atFirst.shift(0), 1);
        EveryNinth atLast = new EveryNinth();
        atLast.thing(0, 0, 6039);
        atLast.thing(4, 0, 6039);
        atLast.set(0, 0, 126);
        CHECK.due("the other one comes on day 399 alone", atLast.when(1, 0), 399);
        CHECK.due("to share day 399 is enough", atLast.shift(0), 1);
        EveryNinth fixed = new EveryNinth();
        fixed.thing(5, 3, 6000);
        fixed.thing(0, 0, 6003);
        CHECK.due("fixed days do not shift", fixed.shift(0), -1);
        CHECK.due("the other one can", fixed.shift(1), 1);
        EveryNinth beyond = new EveryNinth();
        beyond.thing(0, 0, 5900);
        beyond.thing(0, 0, 6052);
        // 59 * 6 = 354 and 52 + 300 = 352: they would meet at 59 * 52 = 3068 only, far behind
        CHECK.due("a meeting behind the year does not count", beyond.shift(0), 0);
    }

    private static void shiftRefuses() {
        EveryNinth x = Check.with(100, 100);
        for (int thing : new int[] {-1, 2, 6, Integer.MIN_VALUE, Integer.MAX_VALUE}) {
            CHECK.due("shift(" + thing + ")", x.shift(thing), -2);
        }
    }

    private static void joinFindsADay() {
        EveryNinth x = Check.with(200, 201, 6000, 6059, 5900);
        CHECK.due("join(0, 1)", x.join(0, 1), 1);
        CHECK.due("join(1, 0)", x.join(1, 0), 1);
        CHECK.due("join(0, 2)", x.join(0, 2), 0);
        CHECK.due("join(2, 3)", x.join(2, 3), 59);
        CHECK.due("join(3, 2): modulo 60", x.join(3, 2), 1);
        CHECK.due("join(4, 3): far away", x.join(4, 3), 0);
        EveryNinth y = Check.with(4510, 3000, 1203);
        // 45 and 30 share 15: 10 + 5
        CHECK.due("join(0, 1)", y.join(0, 1), 5);
        CHECK.due("join(1, 0)", y.join(1, 0), 10);
        // 45 and 12 share 3: 10 is 1, 3 is 0
        CHECK.due("join(0, 2)", y.join(0, 2), 2);
        CHECK.due("join(2, 0)", y.join(2, 0), 1);
        EveryNinth z = Check.with(5050, 2501);
        // 50 and 25 share 25: from 50 it is 1 day to 51; past 59 the begin is 0, 1
        CHECK.due("join(0, 1)", z.join(0, 1), 1);
        CHECK.due("join(1, 0): 1 and 24 is 25", z.join(1, 0), 24);
        z.set(3, 0, 58);
        z.set(3, 1, 7);
        CHECK.due("join(0, 1): 58 and 9 is 7 modulo 60", z.join(0, 1), 9);
        EveryNinth putOff = new EveryNinth();
        putOff.thing(2, 0, 700);
        putOff.thing(4, 0, 701);
        putOff.set(0, 0, 127);
        CHECK.due("by rounds alone", putOff.join(0, 1), 1);
    }

    private static void joinRefuses() {
        EveryNinth x = Check.with(100, 100);
        int[][] bad = {{0, 0}, {1, 1}, {0, 2}, {2, 0}, {-1, 0}, {0, -1}, {2, 2}, {Integer.MIN_VALUE, 0},
            {0, Integer.MAX_VALUE}};
        for (int[] b : bad) {
            CHECK.due("join(" + b[0] + ", " + b[1] + ")", x.join(b[0], b[1]), -2);
        }
    }

    private static void goodShiftIsCheapest() {
        EveryNinth x = Check.with(2000, 2000);
        Check.read(x, "costs 1;crowds 10;minds 0;");
        x.force(1);
        // 40 days alone cost 1 each; a begin from 20 on comes once less, from 40 on twice
        CHECK.due("goodShift(0, 0)", x.goodShift(0, 0), 41);
        CHECK.due("goodShift(0, 1)", x.goodShift(0, 1), 38);
        EveryNinth like = Check.with(2000, 2000);
        Check.read(like, "costs 0;crowds 10;minds 0;");
        like.force(1);
        CHECK.due("of like ones the fewest", like.goodShift(1, 0), 1);
        CHECK.due("what they cost", like.goodShift(1, 1), 0);
        EveryNinth round = Check.with(6010, 6011);
        Check.read(round, "costs day < 1;crowds 0;minds 0;");
        round.force(1);
        CHECK.due("at 0 it costs 1, so it stays", round.goodShift(0, 0), 0);
        round.set(3, 0, 0);
        CHECK.due("from 0 it goes", round.goodShift(0, 0), 1);
    }

    private static void goodShiftMinds() {
        EveryNinth x = Check.with(2000, 2000);
        // by the rule: 20 days of 6 are 120; shifted by s it is 40 and s
        CHECK.due("by the rule", x.goodShift(0, 0), 1);
        CHECK.due("by the rule", x.goodShift(0, 1), 41);
        CHECK.due("the year as it is", x.year(0), 120);
        Check.read(x, "costs 0;crowds 0;minds 40 - rest;");
        x.force(1);
        CHECK.due("minds fall to 0 at 40", x.goodShift(0, 0), 40);
        CHECK.due("minds fall to 0", x.goodShift(0, 1), 0);
        Check.read(x, "costs 0;crowds 0;minds (rest < 7) * 50 + 10;");
        x.force(2);
        CHECK.due("minds at 7", x.goodShift(1, 0), 7);
        CHECK.due("they count", x.goodShift(1, 1), 10);
        Check.read(x, "costs 0;crowds 0;minds (rest = 0) * 50 + thing * 20 + period - number;");
        x.force(3);
        x.set(1, 1, 3);
        CHECK.due("thing, period, number", x.goodShift(1, 1), 37);
        CHECK.due("thing, period, number", x.goodShift(0, 1), 20);
        CHECK.due("rest", x.goodShift(0, 0), 1);
        Check.read(x, "costs 0;crowds 0;minds day + many + 5;");
        x.force(4);
        CHECK.due("day, many are 0", x.goodShift(0, 1), 5);
        Check.read(x, "costs 20;crowds 0;minds 59 - rest;");
        x.force(5);
        x.set(2, 1, 60);
        // thing 1 costs 7 * 20, thing 0 20 * 20 up to 19, 19 * 20 to 39, 18 * 20 from 40 on
        CHECK.due("costs and minds together", x.goodShift(0, 0), 59);
        CHECK.due("costs and minds together", x.goodShift(0, 1), 140 + 360);
    }

    private static void goodShiftRefuses() {
        EveryNinth x = Check.with(100);
        int[][] bad = {{1, 0}, {-1, 0}, {6, 1}, {0, 2}, {0, -1}, {Integer.MIN_VALUE, 0}, {0, Integer.MAX_VALUE}};
        for (int[] b : bad) {
            CHECK.due("goodShift(" + b[0] + ", " + b[1] + ")", x.goodShift(b[0], b[1]), -2);
        }
    }

    private static void nothingTrulyShifts() {
        EveryNinth x = Check.with(200, 201, 902);
        x.set(0, 0, 3);
        int costs = x.year(0);
        x.shift(0);
        x.join(0, 1);
        x.goodShift(2, 0);
        x.goodShift(1, 1);
        CHECK.due("told(0, 3)", x.told(0, 3), 0);
        CHECK.due("told(1, 3)", x.told(1, 3), 1);
        CHECK.due("told(2, 3)", x.told(2, 3), 2);
        CHECK.due("day(2, 0)", x.day(2, 0), 5);
        CHECK.due("year(0)", x.year(0), costs);
    }
}
