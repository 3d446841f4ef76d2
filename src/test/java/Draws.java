import java.util.function.IntPredicate;

/** The draws of a seed, by the document's words alone; finds seeds whose draws are what a test needs. */
final class Draws {
    private Draws() {
    }

    /** The first draw is number 1. */
    static int draw(int seed, int number) {
        long x = seed;
        for (int i = 0; i < number; i++) {
            x = (75 * x + 74) % 65537;
        }
        return (int) x;
    }

    static int firstSeed(String what, IntPredicate wanted) {
        for (int seed = 0; seed <= 65535; seed++) {
            if (wanted.test(seed)) {
                return seed;
            }
        }
        throw new IllegalStateException("no seed for " + what);
    }

    static boolean isLost(int seed, int loss) {
        return draw(seed & 65535, 1) % 100 < loss;
    }

    /** The first of some seeds in a row that are all lost, with one behind them that is not. */
    static int firstOfLost(int many, int loss) {
        return firstSeed(many + " lost ones", seed -> {
            for (int i = 0; i < many; i++) {
                if (!isLost(seed + i, loss)) {
                    return false;
                }
            }
            return !isLost(seed + many, loss);
        });
    }
}
