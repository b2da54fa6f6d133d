/** Numbers that look thrown but are the same in each run of the tests. */
final class Dice {
    private long state;

    Dice(long seed) {
        state = seed * 2862933555777941757L + 3037000493L;
    }

    long next() {
        state = state * 6364136223846793005L + 1442695040888963407L;
        long v = state ^ (state >>> 33);
        v *= 0xff51afd7ed558ccdL;
        return v ^ (v >>> 29);
    }

    /** low .. high, both too. */
    int from(int low, int high) {
        return low + (int) Math.floorMod(next(), (long) high - low + 1);
    }

    boolean once(int in) {
        return from(1, in) == 1;
    }

    int of(int... choices) {
        return choices[from(0, choices.length - 1)];
    }
}
