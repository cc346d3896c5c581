/** Numbers that only look random, and towns made of them: the same in every run. */
final class RandomTown {
    private long seed;

    RandomTown(long seed) {
        this.seed = seed * 7919 + 17;
    }

    int below(int n) {
        seed = seed * 6364136223846793005L + 1442695040888963407L;
        return (int) ((seed >>> 33) % n);
    }

    /** Drivers of all kinds, things here and there, some of the paint grown old. */
    BumpStreets make() {
        BumpStreets x = new BumpStreets();
        x.high(1 + below(6));
        int drivers = below(9);
        for (int d = 0; d < drivers; d++) {
            x.driver(below(6));
            x.set(d, 1, 10 + below(71));
        }
        int many = below(4) == 0 ? below(60) : below(9);
        for (int i = 0; i < many; i++) {
            if (below(3) == 0) {
                x.days(1 + below(12));
            }
            x.thing(below(3), below(20), below(4) == 0 ? 4 : below(5));
        }
        for (int d = 0; d < drivers; d++) {
            x.set(d, 2, below(3));
        }
        return x;
    }
}
