/** Numbers for the random runs: the same ones in each run of a test. */
final class Dice {
    private long state;

    Dice(long seed) {
        state = seed;
    }

    int below(int k) {
        state = state * 6364136223846793005L + 1442695040888963407L;
        return (int) Math.floorMod(state >>> 33, (long) k);
    }

    boolean oneIn(int k) {
        return below(k) == 0;
    }

    int between(int low, int high) {
        return low + below(high - low + 1);
    }

    int of(int... some) {
        return some[below(some.length)];
    }
}
