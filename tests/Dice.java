/** Numbers that look thrown but are the same in every run of the tests. */
final class Dice {
    private long state;

    Dice(long seed) {
        state = seed * 0x9E3779B97F4A7C15L + 1;
    }

    int below(int bound) {
        state = state * 6364136223846793005L + 1442695040888963407L;
        return (int) ((state >>> 33) % bound);
    }

    int between(int least, int most) {
        return least + below(most - least + 1);
    }

    boolean oneIn(int n) {
        return below(n) == 0;
    }

    int oneOf(int... some) {
        return some[below(some.length)];
    }

    String oneOf(String... some) {
        return some[below(some.length)];
    }

    int any() {
        return (below(1 << 16) << 16) ^ below(1 << 16);
    }
}
