/** Numbers that look random and are the same in each run. */
final class Dice {
    private long state;

    Dice(long seed) {
        state = seed * 0x9E3779B97F4A7C15L + 1;
        next();
        next();
    }

    private int next() {
        state = state * 6364136223846793005L + 1442695040888963407L;
        return (int) (state >>> 33);
    }

    /** A number from least to most. */
    int from(int least, int most) {
        return least + Math.floorMod(next(), most - least + 1);
    }

    boolean one(int of) {
        return from(1, of) == 1;
    }

    /** Mostly a number from least to most, at times one just outside, seldom any. */
    int about(int least, int most) {
        if (one(400)) {
            int[] far = {Integer.MIN_VALUE, Integer.MAX_VALUE, Integer.MIN_VALUE + 1, -1000, 1 << 20, next() * 2};
            return far[from(0, far.length - 1)];
        }
        return one(40) ? from(least - 2, most + 2) : from(least, most);
    }
}
