/** Numbers that look as if by chance, but are the same ones each time. */
final class Numbers {
    private long seed;

    Numbers(long seed) {
        this.seed = seed * 0x9E3779B97F4A7C15L + 1;
    }

    /** A number from 0 to below the bound. */
    int below(int bound) {
        seed = seed * 6364136223846793005L + 1442695040888963407L;
        return (int) ((seed >>> 33) % bound);
    }

    /** A number from the least to the greatest. */
    int from(int least, int greatest) {
        return least + below(greatest - least + 1);
    }

    boolean once(int in) {
        return below(in) == 0;
    }
}
