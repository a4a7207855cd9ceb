/** How lots are drawn, told once more for the tests. */
final class Lots {
    private Lots() {
    }

    static int seedBehind(int seed) {
        return (int) ((25173L * seed + 13849) % 65536);
    }

    /** The seed by which the k-th lot from a seed on is drawn. */
    static int seed(int from, int k) {
        int seed = from;
        for (int drawn = -1; drawn < k;) {
            seed = seedBehind(seed);
            drawn += seed / 64 > 0 ? 1 : 0;
        }
        return seed;
    }

    static int drawn(int from, int k) {
        return seed(from, k) / 64;
    }

    /** The least seed behind which so many lots are 0, one behind the other; -1: there is none. */
    static int seedAheadOfZeros(int zeros) {
        for (int from = 0; from < 65536; from++) {
            int n = 0;
            for (int seed = seedBehind(from); seed / 64 == 0 && n < zeros; seed = seedBehind(seed)) {
                n++;
            }
            if (n == zeros) {
                return from;
            }
        }
        return -1;
    }
}
