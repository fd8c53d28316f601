/** Numbers that look like chance, but are the same in every run. */
final class Numbers {
    private long state;

    Numbers(long seed) {
        state = seed;
    }

    /** 0 .. bound - 1. */
    int below(int bound) {
        state = state * 6364136223846793005L + 1442695040888963407L;
        return (int) ((state >>> 33) % bound);
    }

    int of(int... choices) {
        return choices[below(choices.length)];
    }

    boolean once(int in) {
        return below(in) == 0;
    }
}
