/** The generator as the document tells it, in numbers that cannot overflow. */
final class Chance {
    private Chance() {
    }

    /** The seed after one draw. */
    static int after(int seed) {
        return (int) ((25173L * seed + 13849L) % 65536L);
    }

    /** The seed from which one draw leads to this seed. */
    static int before(int next) {
        for (int seed = 0; seed < 65536; seed++) {
            if (after(seed) == next) {
                return seed;
            }
        }
        throw new IllegalArgumentException("no seed leads to " + next);
    }
}
