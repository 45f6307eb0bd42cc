/** A fixed row of lots, so that a test draws many cases and each run of it draws the same. */
final class Lots {
    private long lot;

    Lots(int row) {
        lot = 7919L * row + 12345;
    }

    /** A number of 0 to most. */
    int upTo(int most) {
        return (int) (next() % (most + 1));
    }

    int anyInt() {
        return (int) (next() << 1 ^ next());
    }

    private long next() {
        lot = lot * 6364136223846793005L + 1442695040888963407L;
        return lot >>> 33;
    }
}
