import java.math.BigInteger;

/** Promises 12 to 15: meet, every, why, full. */
public final class MeetingTest {
    private static final Check CHECK = new Check("MeetingTest");
    private static final long NO = -4611686018427387904L;

    public static void main(String[] args) {
        ofNoThings();
        ofOneThing();
        ofSome();
        roundsThatBeginLate();
        farBehindTheYear();
        kindsDoNotMatter();
        thoseThatNeverMeet();
        setsThatAreNone();
        drawnSets();
        fullness();
        CHECK.end();
    }

    private static void ofNoThings() {
        EveryNinth x = new EveryNinth();
        CHECK.due("meet(0)", x.meet(0), 0);
        CHECK.due("every(0)", x.every(0), 1);
        CHECK.due("why(0)", x.why(0), -1);
        EveryNinth y = Check.with(200, 201);
        CHECK.due("meet(0) of none of two", y.meet(0), 0);
        CHECK.due("every(0) of none of two", y.every(0), 1);
        CHECK.due("why(0) of none of two", y.why(0), -1);
    }

    private static void ofOneThing() {
        EveryNinth x = Check.with(905, 6059);
        CHECK.due("meet(1)", x.meet(1), 5);
        CHECK.due("every(1)", x.every(1), 9);
        CHECK.due("why(1)", x.why(1), -1);
        CHECK.due("meet(2)", x.meet(2), 59);
        CHECK.due("every(2)", x.every(2), 60);
        CHECK.due("why(2)", x.why(2), -1);
    }

    private static void ofSome() {
        EveryNinth x = Check.with(905, 1403, 700);
        CHECK.due("meet(3)", x.meet(3), 59);
        CHECK.due("every(3)", x.every(3), 126);
        CHECK.due("meet(5)", x.meet(5), 14);
        CHECK.due("every(5)", x.every(5), 63);
        CHECK.due("meet(6)", x.meet(6), NO);
        EveryNinth y = Check.with(400, 602, 1008);
        CHECK.due("8, 20, 32 .. and 8, 18, 28 ..", y.meet(7), 8);
        CHECK.due("every(7)", y.every(7), 60);
    }

    private static void roundsThatBeginLate() {
        EveryNinth x = Check.with(100, 159);
        CHECK.due("meet(3)", x.meet(3), 59);
        CHECK.due("every(3)", x.every(3), 1);
        EveryNinth y = Check.with(6000, 159);
        CHECK.due("the first ahead of the other's begin", y.meet(3), 60);
        EveryNinth z = Check.with(3059, 2900 + 1);
        // 59 = 1 + 2 * 29
        CHECK.due("on the begin itself", z.meet(3), 59);
        EveryNinth w = Check.with(701, 350 + 7);
        CHECK.due("57 is 1 modulo 7 and begins the other", w.meet(3), 57);
        CHECK.due("every(3)", w.every(3), 21);
        EveryNinth v = Check.with(258, 100, 159);
        CHECK.due("60 is the first even day behind 59", v.meet(7), 60);
        CHECK.due("every(7)", v.every(7), 2);
    }

    private static void farBehindTheYear() {
        int[] primes = {59, 53, 47, 43, 41, 37};
        EveryNinth x = new EveryNinth();
        long all = 1;
        for (int i = 0; i < 6; i++) {
            x.thing(0, 0, primes[i] * 100 + 10 + i);
            all *= primes[i];
        }
        CHECK.due("every(63)", x.every(63), all);
        long day = x.meet(63);
        for (int i = 0; i < 6; i++) {
            CHECK.due("it is in round " + i, (day - 10 - i) % primes[i], 0);
        }
        CHECK.holds("it is the first", day >= 15 && day < all + 15);
        for (int i = 0; i < 6; i++) {
            x.set(3, i, i == 0 ? 1 : 0);
            x.set(2, i, 60 - i);
        }
        CHECK.due("60 .. 55 with a begin at 1", x.meet(63), NO);
        CHECK.due("every(63)", x.every(63), NO);
        x.set(3, 0, 0);
        CHECK.due("60 .. 55 from 0 on", x.meet(63), 0);
        CHECK.due("every(63)", x.every(63), lcm(60, 59, 58, 57, 56, 55));
    }

    private static long lcm(int... some) {
        BigInteger all = BigInteger.ONE;
        for (int one : some) {
            BigInteger other = BigInteger.valueOf(one);
            all = all.divide(all.gcd(other)).multiply(other);
        }
        return all.longValueExact();
    }

    private static void kindsDoNotMatter() {
        EveryNinth x = new EveryNinth();
        x.thing(2, 3, 700);
        x.thing(4, 3, 1400);
        x.thing(5, 9, 6002);
        x.thing(1, 9, 6003);
        x.set(0, 0, 127);
        CHECK.due("meet(3) though both never come", x.meet(3), 0);
        CHECK.due("every(3)", x.every(3), 14);
        CHECK.due("meet(12) though both come on day 9", x.meet(12), NO);
        CHECK.due("why(12)", x.why(12), 23);
    }

    private static void thoseThatNeverMeet() {
        EveryNinth x = Check.with(200, 400, 601, 903, 1000);
        // 2: odd days; 0, 1, 4: even ones; 3: 3, 12, ..
        CHECK.due("why(31)", x.why(31), 2);
        CHECK.due("why(30)", x.why(30), 12);
        CHECK.due("why(20)", x.why(20), 24);
        CHECK.due("why(12): 1, 7, 13 and 3, 12", x.why(12), 23);
        CHECK.due("why(27)", x.why(27), -1);
        CHECK.due("meet(27)", x.meet(27), 120);
        CHECK.due("why(28): 23 ahead of 24", x.why(28), 23);
        CHECK.due("why(4)", x.why(4), -1);
        CHECK.due("meet(31)", x.meet(31), NO);
        CHECK.due("every(31)", x.every(31), NO);
        EveryNinth y = Check.with(100, 100, 100, 100, 200, 201);
        CHECK.due("the last two", y.why(63), 45);
        CHECK.due("the last two", y.why(48), 45);
        CHECK.due("meet(31)", y.meet(31), 0);
    }

    private static void setsThatAreNone() {
        EveryNinth x = Check.with(100, 100);
        int[] bad = {4, 5, 7, 8, 32, 64, 1 << 30, -1, -4, Integer.MIN_VALUE, Integer.MIN_VALUE + 1, Integer.MAX_VALUE};
        for (int set : bad) {
            CHECK.due("meet(" + set + ")", x.meet(set), NO);
            CHECK.due("every(" + set + ")", x.every(set), NO);
            CHECK.due("why(" + set + ")", x.why(set), -2);
        }
        EveryNinth full = Check.with(100, 100, 100, 100, 100, 100);
        CHECK.due("meet(63)", full.meet(63), 0);
        CHECK.due("meet(64)", full.meet(64), NO);
        CHECK.due("every(64)", full.every(64), NO);
        CHECK.due("why(127)", full.why(127), -2);
    }

    /** By what meeting is: in all rounds, and the day one step ahead of it is ahead of some begin. */
    private static void drawnSets() {
        Dice dice = new Dice(12);
        for (int i = 0; i < 4000; i++) {
            EveryNinth x = new EveryNinth();
            int things = dice.between(1, 6);
            int[] periods = new int[things];
            int[] begins = new int[things];
            int target = dice.below(60);
            for (int t = 0; t < things; t++) {
                periods[t] = dice.between(1, 60);
                begins[t] = dice.oneIn(4) ? dice.below(60) : target % periods[t];
                x.thing(0, 0, periods[t] * 100 + begins[t]);
            }
            boolean never = false;
            for (int a = 0; a < things; a++) {
                for (int b = 0; b < a; b++) {
                    int divisor = BigInteger.valueOf(periods[a]).gcd(BigInteger.valueOf(periods[b])).intValue();
                    never |= (begins[a] - begins[b]) % divisor != 0;
                }
            }
            int set = (1 << things) - 1;
            long day = x.meet(set);
            CHECK.due("never", day == NO ? 1 : 0, never ? 1 : 0);
            CHECK.due("every", x.every(set), never ? NO : lcm(periods));
            CHECK.due("why", x.why(set) == -1 ? 0 : 1, never ? 1 : 0);
            boolean first = false;
            for (int t = 0; t < things && !never; t++) {
                CHECK.holds("in each round", day >= begins[t] && (day - begins[t]) % periods[t] == 0);
                first |= day - x.every(set) < begins[t];
            }
            CHECK.holds("the first", never || first);
        }
    }

    private static void fullness() {
        EveryNinth x = new EveryNinth();
        CHECK.due("full(0) of none", x.full(0), 0);
        CHECK.due("full(1) of none", x.full(1), 1);
        x.thing(0, 0, 900);
        CHECK.due("full(0)", x.full(0), 1);
        CHECK.due("full(1)", x.full(1), 9);
        x.thing(4, 0, 1800);
        CHECK.due("1/9 and 1/18: full(0)", x.full(0), 1);
        CHECK.due("1/9 and 1/18: full(1)", x.full(1), 6);
        x.thing(1, 9, 600);
        x.thing(0, 0, 300);
        x.thing(0, 0, 300);
        CHECK.due("and 1/6, 1/3, 1/3: full(0)", x.full(0), 1);
        CHECK.due("and 1/6, 1/3, 1/3: full(1)", x.full(1), 1);
        x.thing(0, 0, 100);
        CHECK.due("and 1: full(0)", x.full(0), 2);
        CHECK.due("and 1: full(1)", x.full(1), 1);
        CHECK.due("full(2)", x.full(2), NO);
        CHECK.due("full(-1)", x.full(-1), NO);
        CHECK.due("full(MIN)", x.full(Integer.MIN_VALUE), NO);
        EveryNinth y = Check.with(5900, 5300, 4700, 4300, 4100, 3700);
        long below = 59L * 53 * 47 * 43 * 41 * 37;
        CHECK.due("six primes: full(1)", y.full(1), below);
        long above = below / 59 + below / 53 + below / 47 + below / 43 + below / 41 + below / 37;
        CHECK.due("six primes: full(0)", y.full(0), above);
    }
}
