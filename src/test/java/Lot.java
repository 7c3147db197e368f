import java.util.function.Predicate;

/** The document's draws, by whole numbers without a sign: another way than the class's. */
final class Lot {
    private static final long ROUND = 1L << 32;

    private long z;

    Lot(int seed) {
        z = seed & ROUND - 1;
    }

    int draw() {
        z = (z * 1103515245L + 12345L) % ROUND;
        return (int) (z / 256);
    }

    Lot skip(int draws) {
        for (int k = 0; k < draws; k++) draw();
        return this;
    }

    int z() {
        return (int) z;
    }

    static int zAfter(int seed, int draws) {
        return new Lot(seed).skip(draws).z();
    }

    /** The first number that gives such draws. */
    static int seed(Predicate<Lot> draws) {
        for (int seed = 0; seed < 1000000; seed++) {
            if (draws.test(new Lot(seed))) return seed;
        }
        throw new IllegalStateException("no such draws");
    }

    /** The first number of which that draw (1: the first one) has that rest. */
    static int seed(int draw, int by, int rest) {
        return seed(lot -> lot.skip(draw - 1).draw() % by == rest);
    }
}
