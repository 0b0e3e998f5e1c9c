/** Numbers that look drawn, the same ones in every run. */
final class Draws {
    private long state;

    Draws(long seed) {
        state = seed * 2654435761L + 88172645463325252L;
    }

    int below(int m) {
        state ^= state << 13;
        state ^= state >>> 7;
        state ^= state << 17;
        return (int) Long.remainderUnsigned(state, m);
    }

    int from(int low, int high) {
        return low + below(high - low + 1);
    }

    boolean once(int in) {
        return below(in) == 0;
    }

    /** Nearly always low .. high, else just outside, or far. */
    int near(int low, int high) {
        if (!once(12)) {
            return from(low, high);
        }
        int[] odd = {low - 1, high + 1, high + 2, -1, -2, 0, Integer.MIN_VALUE, Integer.MAX_VALUE, 1 << 16, -77};
        return odd[below(odd.length)];
    }

    String pick(String... texts) {
        return texts[below(texts.length)];
    }
}
