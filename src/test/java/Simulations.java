/** simulate() done by hand: the turns as calls of the methods, an exception leaving one out. */
final class Simulations {
    private Simulations() {
    }

    static void same(String walk, long seed, int m) {
        PlacardWalkers x = Towns.of(walk);
        Checks.due("simulate(" + seed + ", " + m + ") of " + walk, x.simulate(seed, m), byHand(Towns.of(walk), seed, m));
    }

    private static long byHand(PlacardWalkers x, long seed, int m) {
        long s = seed;
        for (int i = 0; i < m; i++) {
            s = s * 6364136223846793005L + 1442695040888963407L;
            int r = (int) (s >>> 33);
            Checks.outcome(() -> turn(x, r % 8, r / 8));
        }
        return 10000 * x.about(6) + 100 * x.about(7) + x.about(9);
    }

    private static int turn(PlacardWalkers x, int kind, int q) {
        return switch (kind) {
            case 0 -> x.walker(q % 26);
            case 1 -> x.street(2 + q % 19, 1 + q / 32 % 20, q / 1024 % 21, 1 + q / 32768 % 6);
            case 2 -> q / 256 % 2 == 0 ? x.exchange(q % 10, q / 16 % 10) : x.shift(q % 4, q / 8 % 40);
            case 3 -> q / 4 % 2 == 0 ? x.set(0, q % 4) : x.set(1, q / 8 % 2);
            default -> x.ticks(1 + q % 20);
        };
    }
}
