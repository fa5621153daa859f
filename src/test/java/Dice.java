/** Throws that are the same in every run. */
final class Dice {
    private long state;

    Dice(int seed) {
        state = seed * 7919L + 12345;
    }

    int below(int n) {
        state = state * 6364136223846793005L + 1442695040888963407L;
        return (int) ((state >>> 33) % Math.max(1, n));
    }
}
