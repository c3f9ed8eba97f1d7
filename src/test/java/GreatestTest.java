/** Sums, products and quotients at the greatest values and where 32 bits wrap around; empty and full. */
public final class GreatestTest {
    private static final int FARTHEST = 10_000_000;

    public static void main(String[] args) {
        Check.test("the greatest risk", GreatestTest::greatestRisk);
        Check.test("the greatest days", GreatestTest::greatestDays);
        Check.test("thirty points", GreatestTest::thirtyPoints);
        Check.test("a hundred findings", GreatestTest::hundredFindings);
        Check.test("a hundred findings by lists", GreatestTest::hundredFindingsByLists);
        Check.test("a list that fills the room", GreatestTest::listThatFillsTheRoom);
        Check.test("the longest walk", GreatestTest::longestWalk);
        Check.test("points above 32 bits of a walk", GreatestTest::walkAbove32Bits);
        Check.test("thirty permits", GreatestTest::thirtyPermits);
        Check.test("grounds above 32 bits", GreatestTest::groundsAbove32Bits);
        Check.test("crowds and space above 32 bits", GreatestTest::crowdsAbove32Bits);
        Check.test("distances above 32 bits", GreatestTest::distancesAbove32Bits);
        Check.test("gaps above 32 bits", GreatestTest::gapsAbove32Bits);
        Check.test("distances a square root would miss", GreatestTest::distancesBetweenRoots);
        Check.test("grounds at the ends", GreatestTest::groundsAtTheEnds);
        Check.test("the most days", GreatestTest::mostDays);
        Check.test("seeds", GreatestTest::seeds);
        Check.test("512 calls", GreatestTest::promisedCalls);
        Check.test("two objects", GreatestTest::twoObjects);
        Check.finish();
    }

    private static InspectRows withPoint() {
        InspectRows x = new InspectRows();
        x.point(0, 0, 0, 0, 0);
        return x;
    }

    /** 100 of its kind, 100 of its height, 1,000 of its people, 100 missed findings of 50 twice. */
    private static void greatestRisk() {
        InspectRows x = new InspectRows();
        x.weight(4, 100);
        x.point(4, 3_000, 100_000, 10_000, 10_000);
        for (int i = 0; i < 100; i++) {
            x.finding(0, 50, 0);
        }
        Check.equal("with all findings in time", x.pointAt(0, 0), 6_200);
        x.day(1);
        Check.equal("with all findings missed", x.pointAt(0, 0), 11_200);
        Check.equal("open findings", x.pointAt(0, 4), 100);
        x.steps(11_200, 11_200, 11_200);
        Check.equal("class at the steps", x.pointAt(0, 1), 3);
        x.steps(11_199, 11_200, 11_201);
        Check.equal("class between the steps", x.pointAt(0, 1), 2);
        x.steps(11_201, 11_201, 11_201);
        Check.equal("class below the steps", x.pointAt(0, 1), 0);
    }

    private static void greatestDays() {
        InspectRows x = withPoint();
        x.interval(0, 4_000, 1_000);
        x.day(99_999);
        x.visit(0);
        Check.equal("the greatest first due day", x.pointAt(0, 3), 103_999);
        Check.equal("not due on the last day", x.due(99_999, 0), -1);
        Check.equal("the greatest day of a finding", x.findingAt(x.finding(0, 1, 1_000), 3), 100_999);
        Check.equal("the greatest day by a time", x.findingAt(x.finding(0, 1, -1), 3), 100_999);
        x.question(0, -1, -1, 1);
        x.list(0, 0);
        Check.equal("the greatest day by a list", x.findingAt(2, 3), 100_999);
        InspectRows before = withPoint();
        before.interval(0, 4_000, 0);
        before.day(95_999);
        before.visit(0);
        Check.equal("not due ahead of the last day", before.due(99_998, 0), -1);
        Check.equal("due on the last day", before.due(99_999, 0), 0);
    }

    private static void thirtyPoints() {
        InspectRows x = new InspectRows();
        for (int i = 0; i < 29; i++) {
            Check.equal("point", x.point(i % 5, 0, 100 * i, i, 0), i);
        }
        Check.refuses("point 29 ahead of it", Check.UNKNOWN, () -> x.pointAt(29, 0));
        Check.equal("29 due", x.due(0, 28), 0);
        Check.equal("none behind 29", x.due(0, 29), -1);
        Check.equal("point 29", x.point(0, 0, 2_900, 29, 0), 29);
        Check.equal("risk of point 29", x.pointAt(29, 0), 29);
        Check.equal("30 due, the greatest first", x.due(0, 0), 29);
        Check.equal("30 due, the least last", x.due(0, 29), 0);
        Check.equal("none behind 30", x.due(0, 30), -1);
        for (int i = 0; i < 3; i++) {
            Check.refuses("point 30", Check.ROOM, () -> x.point(0, 0, 0, 0, 0));
        }
        x.visit(29);
        Check.equal("visit of point 29", x.pointAt(29, 2), 0);
        Check.equal("a finding of point 29", x.finding(29, 1, 0), 0);
        Check.equal("its point", x.findingAt(0, 0), 29);
        Check.equal("a walk to point 29", x.walk(29, 1), 58);
    }

    private static void hundredFindings() {
        InspectRows x = withPoint();
        for (int i = 0; i < 99; i++) {
            Check.equal("finding", x.finding(0, 1, i), i);
        }
        Check.refuses("finding 99 ahead of it", Check.UNKNOWN, () -> x.findingAt(99, 0));
        Check.refuses("done(99, 1) ahead of it", Check.UNKNOWN, () -> x.done(99, 1));
        Check.equal("finding 99", x.finding(0, 50, 1_000), 99);
        Check.equal("its day", x.findingAt(99, 3), 1_000);
        Check.refuses("finding 100", Check.ROOM, () -> x.finding(0, 1, 0));
        x.done(99, 9_999);
        Check.equal("its proof", x.findingAt(99, 4), 9_999);
        Check.refuses("finding 100 with one done", Check.ROOM, () -> x.finding(0, 1, 0));
        for (int i = 0; i < 99; i++) {
            x.done(i, i + 1);
        }
        Check.refuses("finding 100 with all done", Check.ROOM, () -> x.finding(0, 1, 0));
        Check.equal("none open", x.pointAt(0, 4), 0);
        Check.equal("no risk", x.pointAt(0, 0), 0);
        Check.refuses("findingAt(100, 0)", Check.UNKNOWN, () -> x.findingAt(100, 0));
    }

    private static void tellSixteen(InspectRows x) {
        for (int q = 0; q < 16; q++) {
            x.question(q, q == 15 ? -1 : q + 1, q == 15 ? -1 : q + 1, 1 + q);
        }
    }

    private static void hundredFindingsByLists() {
        InspectRows x = withPoint();
        tellSixteen(x);
        for (int i = 1; i <= 6; i++) {
            Check.equal("sixteen findings", x.list(0, 0), 16);
            Check.equal("the weights of all", x.pointAt(0, 0), 136 * i);
        }
        Check.refuses("sixteen more than 96", Check.ROOM, () -> x.list(0, 0));
        Check.refuses("five more than 96", Check.ROOM, () -> x.list(0, 0xFFE0));
        Check.equal("a refused list makes none", x.pointAt(0, 4), 96);
        Check.equal("four more than 96", x.list(0, 0xFFF0), 4);
        Check.equal("a hundred open", x.pointAt(0, 4), 100);
        Check.equal("the weights of a hundred", x.pointAt(0, 0), 136 * 6 + 1 + 2 + 3 + 4);
        Check.refuses("one more than 100", Check.ROOM, () -> x.list(0, 0xFFFE));
        Check.equal("none more than 100", x.list(0, 0xFFFF), 0);
        Check.refuses("a finding more than 100", Check.ROOM, () -> x.finding(0, 1, 1));
        x.done(99, 3);
        Check.equal("the last one weighs 4", x.pointAt(0, 0), 136 * 6 + 1 + 2 + 3);
    }

    private static void listThatFillsTheRoom() {
        for (int before : new int[] {84, 85}) {
            InspectRows x = withPoint();
            tellSixteen(x);
            for (int i = 0; i < before; i++) {
                x.finding(0, 1, 0);
            }
            if (before == 84) {
                Check.equal("16 to 84", x.list(0, 0), 16);
                Check.equal("open are 100", x.pointAt(0, 4), 100);
                Check.equal("the last one's point", x.findingAt(99, 0), 0);
            } else {
                Check.refuses("16 to 85", Check.ROOM, () -> x.list(0, 0));
                Check.equal("open are 85", x.pointAt(0, 4), 85);
                Check.refuses("finding 85 is not made", Check.UNKNOWN, () -> x.findingAt(85, 0));
            }
        }
    }

    private static long told(int... points) {
        long bits = 0;
        for (int i = 0; i < points.length; i++) {
            bits |= (long) points[i] << (5 * i);
        }
        return bits;
    }

    /** From 0, 0 through the four corners and back is 100,000 metres: 20,000 to and from, 60,000 between. */
    private static void longestWalk() {
        InspectRows x = new InspectRows();
        int[][] places = {{1, 1}, {-1, -1}, {1, -1}, {-1, 1}, {1, 1}, {-1, -1}, {1, -1}};
        for (int[] place : places) {
            x.point(0, 0, 0, 10_000 * place[0], 10_000 * place[1]);
        }
        Check.equal("to one corner", x.walk(told(0), 1), 40_000);
        Check.equal("to corners across", x.walk(told(0, 1), 2), 80_000);
        Check.equal("to four corners", x.walk(told(0, 1, 2, 3), 4), 100_000);
        int[] round = {0, 2, 1, 3};
        for (int i = 0; i < 4; i++) {
            Check.equal("four corners, stop " + i, x.stop(i), round[i]);
        }
        Check.equal("to seven points in four corners", x.walk(told(0, 1, 2, 3, 4, 5, 6), 7), 100_000);
        int[] seven = {0, 4, 2, 6, 1, 5, 3};
        for (int i = 0; i < 7; i++) {
            Check.equal("seven points, stop " + i, x.stop(i), seven[i]);
        }
        Check.equal("behind the seventh", x.stop(7), -1);
    }

    /** The seventh point stands in bits 30 .. 34: 28 is 11100, all of it above 32 bits. */
    private static void walkAbove32Bits() {
        InspectRows x = new InspectRows();
        for (int i = 0; i < 30; i++) {
            x.point(0, 0, 0, 10 * i, 0);
        }
        for (int seventh : new int[] {28, 29, 16, 7, 8, 4, 3}) {
            Check.equal("seventh " + seventh, x.walk(told(10, 11, 12, 13, 14, 15, seventh), 7),
                20 * Math.max(15, seventh));
            boolean met = false;
            for (int i = 0; i < 7; i++) {
                met |= x.stop(i) == seventh;
            }
            Check.isTrue("the walk misses its seventh point " + seventh, met);
        }
        Check.refuses("seventh 30", Check.UNKNOWN, () -> x.walk(told(10, 11, 12, 13, 14, 15, 30), 7));
        Check.refuses("seventh is the first", Check.RANGE, () -> x.walk(told(28, 11, 12, 13, 14, 15, 28), 7));
        Check.equal("bits above 35 are free", x.walk(-1L << 35 | told(1, 2, 3, 4, 5, 6, 28), 7), 560);
        Check.equal("all bits behind one point are free", x.walk(-1L << 5 | 29, 1), 580);
        Check.equal("all bits behind none are free", x.walk(-1L, 0), 0);
    }

    private static void thirtyPermits() {
        InspectRows x = new InspectRows();
        x.ground(0, 0, 1_000, 1_000);
        for (int i = 0; i < 29; i++) {
            Check.equal("permit", x.permit(1_440 * i, 1_440 * i + 1_440, 1), i);
        }
        Check.refuses("permit 29 ahead of it", Check.UNKNOWN, () -> x.touches(29));
        Check.equal("permit 29", x.permit(9_000_000, 9_999_999, 2), 29);
        Check.equal("its days", x.touches(29), 695);
        for (int i = 0; i < 3; i++) {
            Check.refuses("permit 30", Check.ROOM, () -> x.permit(5_000_000, 5_000_001, 1));
            Check.equal("not by its state", x.clash(), -1);
        }
        Check.refuses("permit 30 near the last", Check.STATE, () -> x.permit(9_999_998, 9_999_999, 1));
        Check.equal("the last is too near", x.clash(), 29);
        Check.refuses("permit 30 again", Check.ROOM, () -> x.permit(5_000_000, 5_000_001, 1));
        Check.equal("not by its state again", x.clash(), -1);
        Check.refuses("permit 30 with crowd 0", Check.RANGE, () -> x.permit(5_000_000, 5_000_001, 0));
        Check.refuses("touches(30)", Check.UNKNOWN, () -> x.touches(30));
    }

    private static void spaceIs(String what, InspectRows x, int crowd, boolean enough) {
        if (enough) {
            Check.takes(what, () -> x.permit(0, 1, crowd));
        } else {
            Check.refuses(what, Check.STATE, () -> x.permit(0, 1, crowd));
        }
        Check.equal(what + ", clash", x.clash(), enough ? -1 : -3);
    }

    /** 65,536 * 65,536 is 0 in 32 bits; 46,341 * 46,341 is below 0; 20,000,000 squared is 400 * 10^12. */
    private static void groundsAbove32Bits() {
        InspectRows x = new InspectRows();
        x.rules(500_000, 0);
        x.ground(0, 0, 65_536, 65_536);
        spaceIs("a ground of 2^32", x, 1, true);
        spaceIs("a ground of 2^32, just enough", x, 8_589, true);
        spaceIs("a ground of 2^32, one more", x, 8_590, false);
        x.ground(0, 0, 46_341, 46_341);
        spaceIs("a ground above 2^31", x, 1, true);
        spaceIs("a ground above 2^31, just enough", x, 4_294, true);
        spaceIs("a ground above 2^31, one more", x, 4_295, false);
        x.rules(10_000_000, 0);
        x.ground(-FARTHEST, -FARTHEST, FARTHEST, FARTHEST);
        spaceIs("the greatest of all", x, 1_000_000, true);
        x.ground(-FARTHEST, 0, FARTHEST, 500_000);
        spaceIs("the greatest crowd, just enough", x, 1_000_000, true);
        x.ground(-FARTHEST, 0, FARTHEST, 499_999);
        spaceIs("the greatest crowd, a millimetre less", x, 1_000_000, false);
        spaceIs("2 less of the greatest crowd", x, 999_998, true);
        spaceIs("1 less of the greatest crowd", x, 999_999, false);
    }

    /** 65,536 * 65,536 is 0 in 32 bits; 46,341 * 46,341 is below 0. */
    private static void crowdsAbove32Bits() {
        InspectRows x = new InspectRows();
        x.ground(0, 0, 1_000, 1_000);
        x.rules(65_536, 0);
        spaceIs("15 by 65536", x, 15, true);
        spaceIs("16 by 65536", x, 16, false);
        spaceIs("65536 by 65536", x, 65_536, false);
        x.rules(46_341, 0);
        spaceIs("46341 by 46341", x, 46_341, false);
        x.rules(10_000_000, 0);
        spaceIs("1000000 by 10000000", x, 1_000_000, false);
        x.rules(4_294_968, 0);
        spaceIs("1000 by 4294968, 704 in 32 bits", x, 1_000, false);
        x.rules(0, 0);
        spaceIs("1000000 by 0", x, 1_000_000, true);
    }

    private static void gapIs(int distance, int dx, int dy, boolean enough) {
        InspectRows x = new InspectRows();
        x.rules(0, distance);
        x.ground(-1, -1, 0, 0);
        x.permit(0, 1, 1);
        x.ground(dx, dy, dx + 1, dy + 1);
        String what = "distance " + distance + ", gaps " + dx + " and " + dy;
        if (enough) {
            Check.takes(what, () -> x.permit(0, 1, 1));
        } else {
            Check.refuses(what, Check.STATE, () -> x.permit(0, 1, 1));
        }
        Check.equal(what + ", clash", x.clash(), enough ? -1 : 0);
    }

    private static void distancesAbove32Bits() {
        gapIs(65_536, 0, 0, false);
        gapIs(65_536, 65_535, 0, false);
        gapIs(65_536, 65_536, 0, true);
        gapIs(65_536, 0, 65_535, false);
        gapIs(65_536, 0, 65_536, true);
        gapIs(46_341, 0, 0, false);
        gapIs(46_341, 46_340, 0, false);
        gapIs(46_341, 0, 46_341, true);
        gapIs(1_000_000, 0, 0, false);
        gapIs(1_000_000, 999_999, 0, false);
        gapIs(1_000_000, 1_000_000, 0, true);
        gapIs(1_000_000, 0, 1_000_000, true);
    }

    private static void gapsAbove32Bits() {
        gapIs(5_000, 65_536, 0, true);
        gapIs(5_000, 0, 65_536, true);
        gapIs(5_000, 46_341, 0, true);
        gapIs(5_000, 0, 46_341, true);
        gapIs(5_000, 32_768, 32_768, true);
        gapIs(5_000, 65_536, 65_536, true);
        gapIs(5_000, 9_999_999, 9_999_999, true);
        gapIs(1_000_000, 9_999_999, 0, true);
        gapIs(1_000_000, 9_999_999, 9_999_999, true);
    }

    /** 600, 800, 1,000 are exact; the others are less than a millimetre off the distance. */
    private static void distancesBetweenRoots() {
        gapIs(1_000_000, 600_000, 800_000, true);
        gapIs(1_000_000, 599_999, 800_000, false);
        gapIs(1_000_000, 600_000, 799_999, false);
        gapIs(1_000_000, 999_999, 1_414, false);
        gapIs(1_000_000, 999_999, 1_415, true);
        gapIs(1_000_000, 1_414, 999_999, false);
        gapIs(1_000_000, 1_415, 999_999, true);
        gapIs(1_000_000, 707_106, 707_107, false);
        gapIs(1_000_000, 707_107, 707_107, true);
        gapIs(1_000_000, 707_106, 707_108, true);
        gapIs(999_999, 707_106, 707_106, false);
        gapIs(999_999, 707_106, 707_107, true);
    }

    private static void groundsAtTheEnds() {
        InspectRows x = new InspectRows();
        x.rules(1, 1_000_000);
        int[] ends = {-FARTHEST, FARTHEST - 1};
        int given = 0;
        for (int x1 : ends) {
            for (int y1 : ends) {
                x.ground(x1, y1, x1 + 1, y1 + 1);
                Check.equal("ground at " + x1 + ", " + y1, x.permit(0, 1, 1), given);
                given++;
            }
        }
        x.ground(-FARTHEST, -FARTHEST, FARTHEST, FARTHEST);
        Check.refuses("all of the ground", Check.STATE, () -> x.permit(0, 1, 1));
        Check.equal("all of the ground, clash", x.clash(), 0);
        x.ground(-FARTHEST + 1_000_001, -FARTHEST, FARTHEST, FARTHEST);
        Check.refuses("without the low x", Check.STATE, () -> x.permit(0, 1, 1));
        Check.equal("without the low x, clash", x.clash(), 2);
        x.ground(-FARTHEST, -FARTHEST + 1_000_001, FARTHEST, FARTHEST);
        Check.refuses("without the low y", Check.STATE, () -> x.permit(0, 1, 1));
        Check.equal("without the low y, clash", x.clash(), 1);
        x.ground(-FARTHEST + 1_000_001, -FARTHEST + 1_000_001, FARTHEST, FARTHEST);
        Check.refuses("without the low x and y", Check.STATE, () -> x.permit(0, 1, 1));
        Check.equal("without the low x and y, clash", x.clash(), 3);
        x.ground(-FARTHEST + 1_000_001, -FARTHEST, FARTHEST - 1_000_001, FARTHEST);
        Check.equal("between all", x.permit(0, 1, 1_000_000), 4);
    }

    private static void daysAre(int from, int to, int days) {
        InspectRows x = new InspectRows();
        x.ground(0, 0, 1_000, 1_000);
        x.permit(from, to, 1);
        Check.equal("days of " + from + " .. " + to, x.touches(0), days);
    }

    /** Day 6,944 has the minutes 9,999,360 and later ones. */
    private static void mostDays() {
        daysAre(0, 9_999_999, 6_945);
        daysAre(0, 9_999_361, 6_945);
        daysAre(0, 9_999_360, 6_944);
        daysAre(1_439, 9_999_999, 6_945);
        daysAre(1_440, 9_999_999, 6_944);
        daysAre(9_999_359, 9_999_361, 2);
        daysAre(9_999_359, 9_999_360, 1);
        daysAre(9_999_360, 9_999_999, 1);
        daysAre(0, 1, 1);
        daysAre(0, 1_440, 1);
        daysAre(0, 1_441, 2);
        daysAre(1_439, 1_440, 1);
        daysAre(1_439, 1_441, 2);
        daysAre(1_440, 1_441, 1);
        daysAre(1_439, 2_881, 3);
    }

    /** x of each seed, reckoned apart in whole numbers modulo 2^32, and x / 256 ahead of the modulo. */
    private static void seeds() {
        long[][] rows = {
            {0, 12_345L, 48}, {1, 1_103_527_590L, 4_310_654}, {-1, 3_191_464_396L, 12_466_657},
            {2, 2_207_042_835L, 8_621_261}, {-5, 3_072_370_712L, 12_001_448},
            {Integer.MIN_VALUE, 2_147_495_993L, 8_388_656}, {Integer.MAX_VALUE, 1_043_980_748L, 4_078_049},
        };
        for (int count : new int[] {1, 2, 3, 7, 16, 29, 30}) {
            InspectRows x = new InspectRows();
            for (int i = 0; i < count; i++) {
                x.point(0, 0, 0, 0, 0);
            }
            for (long[] row : rows) {
                Check.equal("x / 256 of seed " + row[0], row[1] / 256, row[2]);
                Check.equal("seed " + row[0] + " of " + count, x.surprise((int) row[0]), row[2] % count);
            }
        }
    }

    /** "An object is used for at most 512 calls": the last one of them is still answered. */
    private static void promisedCalls() {
        InspectRows x = withPoint();
        for (int call = 1; call < Calls.PROMISED - 1; call++) {
            x.day(call);
        }
        Check.equal("the 512th call", x.due(99_999, 0), 0);
        InspectRows refused = new InspectRows();
        for (int call = 0; call < Calls.PROMISED - 1; call++) {
            Check.refuses("visit(0)", Check.UNKNOWN, () -> refused.visit(0));
        }
        Check.equal("the 512th call after refusals", refused.point(0, 0, 0, 0, 0), 0);
    }

    /** Nothing that one object is told is seen in another, made before it or behind it. */
    private static void twoObjects() {
        InspectRows before = new InspectRows();
        InspectRows told = Scene.BUSY.make();
        knowsNothing("made before", before);
        knowsNothing("made behind", new InspectRows());
        String due = Part.POINTS.of(Scene.BUSY.make(), Scene.BUSY);
        Check.isTrue("another object changes the one told", Part.POINTS.of(told, Scene.BUSY).equals(due));
    }

    private static void knowsNothing(String when, InspectRows x) {
        Check.equal(when + ", clash", x.clash(), -1);
        Check.equal(when + ", stop", x.stop(0), -1);
        Check.equal(when + ", due", x.due(0, 0), -1);
        Check.refuses(when + ", touches", Check.UNKNOWN, () -> x.touches(0));
        Check.refuses(when + ", findingAt", Check.UNKNOWN, () -> x.findingAt(0, 0));
        Check.refuses(when + ", permit", Check.STATE, () -> x.permit(0, 1, 1));
        Check.equal(when + ", no ground", x.clash(), -2);
        Check.equal(when + ", point", x.point(1, 0, 0, 0, 0), 0);
        Check.equal(when + ", risk", x.pointAt(0, 0), 0);
        Check.refuses(when + ", list", Check.STATE, () -> x.list(0, 0));
        Check.equal(when + ", visit", x.pointAt(0, 2), -1);
        x.visit(0);
        Check.equal(when + ", the day", x.pointAt(0, 2), 0);
        Check.equal(when + ", interval", x.pointAt(0, 3), 1_000);
        Check.equal(when + ", time", x.findingAt(x.finding(0, 10, -1), 3), 30);
        Check.equal(when + ", steps", x.pointAt(0, 1), 1);
        x.ground(0, 0, 1_000, 1_000);
        Check.refuses(when + ", space", Check.STATE, () -> x.permit(0, 1, 3));
        Check.equal(when + ", permit", x.permit(0, 1, 2), 0);
        x.ground(5_999, 0, 7_000, 1_000);
        Check.refuses(when + ", distance", Check.STATE, () -> x.permit(0, 1, 2));
    }
}
