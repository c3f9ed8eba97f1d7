/** Promises 15, 16 and 22: walks, their stops, surprises. */
public final class WalkTest {
    public static void main(String[] args) {
        Check.test("promise 15, least of all orders", WalkTest::promise15LeastOfAllOrders);
        Check.test("promise 15, first of the least", WalkTest::promise15FirstOfTheLeast);
        Check.test("promise 15, each count of points", WalkTest::promise15EachCount);
        Check.test("promise 15, refusals", WalkTest::promise15Refusals);
        Check.test("promise 15, refusals without points", WalkTest::promise15RefusalsWithoutPoints);
        Check.test("promise 16, stop", WalkTest::promise16Stop);
        Check.test("promise 22, surprise", WalkTest::promise22Surprise);
        Check.finish();
    }

    private static long told(int... points) {
        long bits = 0;
        for (int i = 0; i < points.length; i++) {
            bits |= (long) points[i] << (5 * i);
        }
        return bits;
    }

    private static void checkStops(InspectRows x, int... due) {
        for (int i = 0; i < due.length; i++) {
            Check.equal("stop(" + i + ")", x.stop(i), due[i]);
        }
        Check.equal("stop(" + due.length + ")", x.stop(due.length), -1);
        Check.equal("a stop far behind", x.stop(Integer.MAX_VALUE), -1);
    }

    private static void promise15LeastOfAllOrders() {
        InspectRows x = new InspectRows();
        x.point(0, 0, 0, 0, 10);
        x.point(0, 0, 0, 10, 0);
        x.point(0, 0, 0, 10, 10);
        Check.equal("none", x.walk(0L, 0), 0);
        checkStops(x);
        Check.equal("one", x.walk(told(2), 1), 40);
        checkStops(x, 2);
        Check.equal("round a square", x.walk(told(0, 1, 2), 3), 40);
        checkStops(x, 0, 2, 1);
        Check.equal("round a square, told otherwise", x.walk(told(1, 0, 2), 3), 40);
        checkStops(x, 1, 2, 0);
        Check.equal("one after three", x.walk(told(1), 1), 20);
        Check.equal("two after one", x.walk(told(2, 0), 2), 40);
        InspectRows far = new InspectRows();
        far.point(0, 0, 0, -10_000, -10_000);
        far.point(0, 0, 0, 10_000, 10_000);
        Check.equal("the farthest", far.walk(told(1, 0), 2), 80_000);
        checkStops(far, 1, 0);
    }

    private static void promise15FirstOfTheLeast() {
        InspectRows x = new InspectRows();
        for (int i = 0; i < 8; i++) {
            x.point(0, 0, 0, i + 1, 0);
        }
        // Along a line each point may be met on the way out or back: what was told first comes first.
        Check.equal("a line of seven", x.walk(told(0, 1, 2, 3, 4, 5, 6), 7), 14);
        checkStops(x, 0, 1, 2, 3, 4, 5, 6);
        Check.equal("a line told backwards", x.walk(told(6, 5, 4, 3, 2, 1, 0), 7), 14);
        checkStops(x, 6, 5, 4, 3, 2, 1, 0);
        Check.equal("a line told mixed", x.walk(told(3, 1, 5, 0, 4), 5), 12);
        checkStops(x, 3, 5, 4, 1, 0);
        x.point(0, 0, 0, 1, 0);
        Check.equal("two points in one place", x.walk(told(8, 0), 2), 2);
        checkStops(x, 8, 0);
        Check.equal("bits behind the n are free", x.walk(-1L << 5 | 7, 1), 16);
        checkStops(x, 7);
    }

    private static void promise15EachCount() {
        InspectRows x = new InspectRows();
        for (int i = 0; i < 8; i++) {
            x.point(0, 0, 0, -10 * i, i % 2);
        }
        long told = told(1, 2, 3, 4, 5, 6, 7, 0);
        for (int n = 0; n <= 7; n++) {
            int upAndDown = n == 0 ? 0 : 2;
            Check.equal("to " + n + " points", x.walk(told, n), 20 * n + upAndDown);
            Check.equal("behind the last of " + n, x.stop(n), -1);
            Check.isTrue("stop " + (n - 1) + " of " + n, n == 0 || x.stop(n - 1) >= 0);
        }
        Check.refuses("to 8 points", Check.RANGE, () -> x.walk(told, 8));
        Check.refuses("to -1 points", Check.RANGE, () -> x.walk(told, -1));
        Check.equal("the walk to 7 stays", x.stop(6) >= 0 ? x.stop(7) : 0, -1);
    }

    private static void promise15Refusals() {
        InspectRows x = new InspectRows();
        for (int i = 0; i < 30; i++) {
            x.point(0, 0, 0, i, 0);
        }
        Check.equal("points 29 and 0", x.walk(told(29, 0), 2), 58);
        Check.refuses("point 30", Check.UNKNOWN, () -> x.walk(told(1, 30), 2));
        Check.refuses("point 31", Check.UNKNOWN, () -> x.walk(told(31), 1));
        Check.refuses("told twice and unknown: unknown first", Check.UNKNOWN, () -> x.walk(told(1, 1, 31), 3));
        Check.refuses("told twice", Check.RANGE, () -> x.walk(told(1, 2, 1), 3));
        Check.refuses("told twice, last of seven", Check.RANGE, () -> x.walk(told(1, 2, 3, 4, 5, 6, 6), 7));
        Check.refuses("n is 8", Check.RANGE, () -> x.walk(told(0, 1, 2, 3, 4, 5, 6, 7), 8));
        Check.refuses("n is 8, the seventh unknown", Check.UNKNOWN, () -> x.walk(told(0, 1, 2, 3, 4, 5, 31), 8));
        Check.refuses("n is 8, the eighth unknown", Check.RANGE, () -> x.walk(told(0, 1, 2, 3, 4, 5, 6, 31), 8));
        Check.refuses("n is the greatest", Check.RANGE, () -> x.walk(told(0, 1, 2, 3, 4, 5, 6), Integer.MAX_VALUE));
        Check.refuses("n is -1", Check.RANGE, () -> x.walk(31L, -1));
        Check.refuses("n is the least", Check.RANGE, () -> x.walk(31L, Integer.MIN_VALUE));
        checkStops(x, 29, 0);
    }

    private static void promise15RefusalsWithoutPoints() {
        InspectRows x = new InspectRows();
        Check.refuses("walk(0, 1) without points", Check.UNKNOWN, () -> x.walk(0L, 1));
        Check.refuses("walk(0, 8) without points", Check.UNKNOWN, () -> x.walk(0L, 8));
        Check.refuses("walk(0, -1) without points", Check.RANGE, () -> x.walk(0L, -1));
        Check.equal("walk(0, 0) without points", x.walk(0L, 0), 0);
        x.point(0, 0, 0, 3, -4);
        Check.refuses("walk to point 1 of one", Check.UNKNOWN, () -> x.walk(1L, 1));
        Check.equal("walk to the one", x.walk(0L, 1), 14);
    }

    private static void promise16Stop() {
        InspectRows x = new InspectRows();
        checkStops(x);
        Check.refuses("stop(-1) ahead of a walk", Check.RANGE, () -> x.stop(-1));
        x.point(0, 0, 0, 5, 0);
        x.point(0, 0, 0, 0, 5);
        x.walk(told(1, 0), 2);
        checkStops(x, 1, 0);
        Check.refuses("stop(-1)", Check.RANGE, () -> x.stop(-1));
        Check.refuses("the least stop", Check.RANGE, () -> x.stop(Integer.MIN_VALUE));
        x.walk(told(0), 1);
        checkStops(x, 0);
        Check.equal("none after some", x.walk(0L, 0), 0);
        checkStops(x);
    }

    private static void promise22Surprise() {
        InspectRows x = new InspectRows();
        Check.refuses("surprise(0) without points", Check.STATE, () -> x.surprise(0));
        x.point(0, 0, 0, 0, 0);
        Check.equal("of one", x.surprise(123), 0);
        x.point(0, 0, 0, 0, 0);
        x.point(0, 0, 0, 0, 0);
        // Reckoned by hand: 12,345 >>> 8 is 48; 1,103,527,590 >>> 8 is 4,310,654.
        Check.equal("seed 0 of three", x.surprise(0), 48 % 3);
        Check.equal("seed 1 of three", x.surprise(1), 4_310_654 % 3);
        for (int i = 3; i < 7; i++) {
            x.point(0, 0, 0, 0, 0);
        }
        Check.equal("seed 0 of seven", x.surprise(0), 48 % 7);
        Check.equal("seed 1 of seven", x.surprise(1), 4_310_654 % 7);
        // 2^31 times an odd number is 2^31 in 32 bits: x is 2^31 + 12,345, and stays without a sign.
        Check.equal("the least seed of seven", x.surprise(Integer.MIN_VALUE), (int) ((2_147_483_648L + 12_345) / 256 % 7));
        for (int seed : new int[] {-1, -5, 99, 1_000_000, Integer.MAX_VALUE}) {
            long in32Bits = Math.floorMod(seed * 1_103_515_245L + 12_345, 4_294_967_296L);
            Check.equal("seed " + seed + " of seven", x.surprise(seed), in32Bits / 256 % 7);
        }
        // Seed 30 ends in 255 and seed 131 in 0 ahead of the shift: 12,345 is seen to be exact.
        Check.equal("seed 30 of seven", x.surprise(30), 11_877_728 % 7);
        Check.equal("seed 131 of seven", x.surprise(131), 11_041_362 % 7);
        Check.equal("a surprise is no visit", x.pointAt(0, 2), -1);
    }
}
