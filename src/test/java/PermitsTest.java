/** Promises 17 to 21: rules, permits, grounds, clashes, days that are touched. */
public final class PermitsTest {
    public static void main(String[] args) {
        Check.test("promise 17, rules", PermitsTest::promise17Rules);
        Check.test("promise 17, rules from now on", PermitsTest::promise17RulesFromNowOn);
        Check.test("promise 18, ranges", PermitsTest::promise18Ranges);
        Check.test("promise 18, space", PermitsTest::promise18Space);
        Check.test("promise 18, distance", PermitsTest::promise18Distance);
        Check.test("promise 18, distance on each side", PermitsTest::promise18DistanceOnEachSide);
        Check.test("promise 18, minutes in common", PermitsTest::promise18MinutesInCommon);
        Check.test("promise 18, room", PermitsTest::promise18Room);
        Check.test("promise 19, ground", PermitsTest::promise19Ground);
        Check.test("promise 19, ground is kept", PermitsTest::promise19GroundIsKept);
        Check.test("promise 20, clash", PermitsTest::promise20Clash);
        Check.test("promise 21, touches", PermitsTest::promise21Touches);
        Check.finish();
    }

    private static final int SIDE = 10_000;

    /** A ground of 10 by 10 metres, its lowest corner here. */
    private static void groundAt(InspectRows x, int x1, int y1) {
        x.ground(x1, y1, x1 + SIDE, y1 + SIDE);
    }

    private static void refusedBy(InspectRows x, String what, int clash, int from, int to, int crowd) {
        Check.refuses(what, Check.STATE, () -> x.permit(from, to, crowd));
        Check.equal(what + ", clash()", x.clash(), clash);
    }

    private static void given(InspectRows x, String what, int number, int from, int to, int crowd) {
        Check.equal(what, x.permit(from, to, crowd), number);
        Check.equal(what + ", clash()", x.clash(), -1);
    }

    private static void promise17Rules() {
        InspectRows x = new InspectRows();
        groundAt(x, 0, 0);
        x.rules(1_000_000, 0);
        Check.refuses("space -1", Check.RANGE, () -> x.rules(-1, 7_000));
        Check.refuses("space 10000001", Check.RANGE, () -> x.rules(10_000_001, 7_000));
        Check.refuses("distance -1", Check.RANGE, () -> x.rules(7_000, -1));
        Check.refuses("distance 1000001", Check.RANGE, () -> x.rules(7_000, 1_000_001));
        refusedBy(x, "space as told", -3, 0, 1, 101);
        given(x, "space as told", 0, 0, 1, 100);
        given(x, "distance as told", 1, 0, 1, 100);
        x.rules(10_000_000, 1_000_000);
        refusedBy(x, "the greatest space", -3, 1, 2, 11);
        given(x, "the greatest space", 2, 1, 2, 10);
        groundAt(x, 1_000_000 + SIDE - 1, 0);
        refusedBy(x, "the greatest distance", 2, 1, 2, 1);
        groundAt(x, 1_000_000 + SIDE, 0);
        given(x, "the greatest distance", 3, 1, 2, 1);
        x.rules(0, 1_000_000);
        given(x, "no space asked", 4, 5, 6, 1_000_000);
    }

    private static void promise17RulesFromNowOn() {
        InspectRows x = new InspectRows();
        x.rules(0, 100_000);
        groundAt(x, 0, 0);
        given(x, "by a great distance", 0, 0, 10, 1);
        x.rules(0, 10);
        groundAt(x, SIDE + 10, 0);
        given(x, "by a small distance now", 1, 0, 10, 1);
        x.rules(0, 100_000);
        groundAt(x, -SIDE - 10, 0);
        refusedBy(x, "by a great distance again", 0, 0, 10, 1);
        Check.equal("what was permitted stays", x.touches(1), 1);
    }

    private static void promise18Ranges() {
        InspectRows x = new InspectRows();
        checkPermitRanges(x);
        refusedBy(x, "no ground", -2, 0, 1, 1);
        x.rules(0, 0);
        x.ground(0, 0, 1, 1);
        checkPermitRanges(x);
        given(x, "the first minute", 0, 0, 1, 1);
        given(x, "all minutes, the greatest crowd", 1, 0, 9_999_999, 1_000_000);
        given(x, "the last minutes", 2, 9_999_998, 9_999_999, 1);
    }

    private static void checkPermitRanges(InspectRows x) {
        Check.refuses("from -1", Check.RANGE, () -> x.permit(-1, 5, 1));
        Check.refuses("to 10000000", Check.RANGE, () -> x.permit(0, 10_000_000, 1));
        Check.refuses("from 10000000", Check.RANGE, () -> x.permit(10_000_000, 10_000_001, 1));
        Check.refuses("to is from", Check.RANGE, () -> x.permit(5, 5, 1));
        Check.refuses("to is below from", Check.RANGE, () -> x.permit(5, 4, 1));
        Check.refuses("to -1", Check.RANGE, () -> x.permit(-5, -1, 1));
        Check.refuses("crowd 0", Check.RANGE, () -> x.permit(0, 1, 0));
        Check.refuses("crowd 1000001", Check.RANGE, () -> x.permit(0, 1, 1_000_001));
    }

    private static void promise18Space() {
        InspectRows x = new InspectRows();
        x.ground(0, 0, 1_000, 500);
        given(x, "space at first, just enough", 0, 0, 1, 1);
        refusedBy(x, "space at first, one more", -3, 5, 6, 2);
        x.ground(0, 0, 999, 500);
        refusedBy(x, "space at first, a millimetre less", -3, 5, 6, 1);
        x.ground(0, 0, 1, 499_999);
        refusedBy(x, "space at first, a square millimetre less", -3, 5, 6, 1);
        x.rules(10_000_000, 0);
        x.ground(-10_000_000, -10_000_000, 10_000_000, 10_000_000);
        given(x, "the greatest ground", 1, 5, 6, 1_000_000);
        x.ground(0, 0, 10_000_000, 1_000_000);
        given(x, "the greatest crowd, just enough", 2, 5, 6, 1_000_000);
        x.ground(0, 0, 10_000_000, 999_999);
        refusedBy(x, "the greatest crowd, a millimetre less", -3, 5, 6, 1_000_000);
    }

    private static void promise18Distance() {
        InspectRows x = new InspectRows();
        groundAt(x, 0, 0);
        given(x, "the first", 0, 0, 10, 1);
        refusedBy(x, "the same ground", 0, 0, 10, 1);
        groundAt(x, SIDE + 3_000, SIDE + 3_999);
        refusedBy(x, "across a corner, too near", 0, 0, 10, 1);
        groundAt(x, SIDE + 3_000, SIDE + 4_000);
        given(x, "across a corner, far enough", 1, 0, 10, 1);
        x.rules(0, 0);
        groundAt(x, SIDE / 2, SIDE / 2);
        given(x, "distance 0 lets grounds overlap", 2, 0, 10, 1);
        x.rules(0, 1);
        groundAt(x, -SIDE, 0);
        refusedBy(x, "distance 1, side by side", 0, 0, 10, 1);
        groundAt(x, -SIDE - 1, 0);
        given(x, "distance 1, a millimetre between", 3, 0, 10, 1);
    }

    private static void promise18DistanceOnEachSide() {
        int[][] nearest = {{SIDE + 5_000, 0}, {-SIDE - 5_000, 0}, {0, SIDE + 5_000}, {0, -SIDE - 5_000}};
        int[][] inward = {{-1, 0}, {1, 0}, {0, -1}, {0, 1}};
        for (int side = 0; side < 4; side++) {
            InspectRows x = new InspectRows();
            groundAt(x, 0, 0);
            x.permit(0, 10, 1);
            groundAt(x, nearest[side][0] + inward[side][0], nearest[side][1] + inward[side][1]);
            refusedBy(x, "side " + side + ", too near", 0, 0, 10, 1);
            groundAt(x, nearest[side][0], nearest[side][1]);
            given(x, "side " + side + ", far enough", 1, 0, 10, 1);
        }
        InspectRows wide = new InspectRows();
        wide.rules(0, 1_000_000);
        wide.ground(-10_000_000, -10_000_000, -9_999_999, -9_999_999);
        wide.permit(0, 10, 1);
        wide.ground(9_999_999, 9_999_999, 10_000_000, 10_000_000);
        given(wide, "the farthest grounds", 1, 0, 10, 1);
        wide.ground(-9_999_000, -9_999_000, 9_999_000, 9_999_000);
        refusedBy(wide, "a ground between both", 0, 0, 10, 1);
    }

    private static void promise18MinutesInCommon() {
        InspectRows x = new InspectRows();
        groundAt(x, 0, 0);
        given(x, "the first", 0, 100, 200, 1);
        refusedBy(x, "its last minute", 0, 199, 300, 1);
        refusedBy(x, "its first minute", 0, 50, 101, 1);
        refusedBy(x, "within it", 0, 120, 130, 1);
        refusedBy(x, "round it", 0, 50, 300, 1);
        given(x, "from its end on", 1, 200, 300, 1);
        given(x, "up to its beginning", 2, 50, 100, 1);
    }

    private static void promise18Room() {
        InspectRows x = new InspectRows();
        groundAt(x, 0, 0);
        for (int i = 0; i < 30; i++) {
            given(x, "permit " + i, i, i, i + 1, 1);
        }
        refusedBy(x, "too near without room: state first", 3, 3, 4, 1);
        refusedBy(x, "no space without room: state first", -3, 50, 51, 201);
        Check.refuses("a permit more than 30", Check.ROOM, () -> x.permit(50, 51, 1));
        Check.equal("not refused by its state", x.clash(), -1);
        checkPermitRanges(x);
        Check.refuses("touches(30)", Check.UNKNOWN, () -> x.touches(30));
        Check.equal("touches(29)", x.touches(29), 1);
    }

    private static void promise19Ground() {
        InspectRows x = new InspectRows();
        Check.refuses("x1 is x2", Check.RANGE, () -> x.ground(5, 5, 5, 6));
        Check.refuses("y1 is y2", Check.RANGE, () -> x.ground(5, 5, 6, 5));
        Check.refuses("x1 above x2", Check.RANGE, () -> x.ground(6, 5, 5, 6));
        Check.refuses("y1 above y2", Check.RANGE, () -> x.ground(5, 6, 6, 5));
        refusedBy(x, "a refused ground is not told", -2, 0, 1, 1);
        x.ground(0, 0, 1_000, 1_000);
        Check.refuses("x1 too low", Check.RANGE, () -> x.ground(-10_000_001, 0, 10_000, 10_000));
        Check.refuses("y1 too low", Check.RANGE, () -> x.ground(0, -10_000_001, 10_000, 10_000));
        Check.refuses("x2 too high", Check.RANGE, () -> x.ground(0, 0, 10_000_001, 10_000));
        Check.refuses("y2 too high", Check.RANGE, () -> x.ground(0, 0, 10_000, 10_000_001));
        refusedBy(x, "a refused ground leaves the one told", -3, 0, 1, 3);
        given(x, "a ground told", 0, 0, 1, 2);
        given(x, "the same ground for the next", 1, 1, 2, 2);
        x.ground(0, 0, 2_000, 1_000);
        given(x, "another ground", 2, 2, 3, 4);
        x.ground(9_000_000, 9_000_000, 9_001_000, 9_001_000);
        given(x, "a ground told later leaves permits theirs", 3, 2, 3, 2);
        x.ground(2_000 + 4_999, 0, 9_000, 1_000);
        refusedBy(x, "near the ground of permit 2", 2, 2, 3, 1);
    }

    private static void promise19GroundIsKept() {
        int far = 9_000_000;
        InspectRows x = new InspectRows();
        groundAt(x, far, far);
        given(x, "a ground far from 0, 0", 0, 0, 10, 1);
        groundAt(x, 0, 0);
        given(x, "a ground at 0, 0", 1, 0, 10, 1);
        groundAt(x, far, 0);
        given(x, "a ground beside both", 2, 0, 10, 1);
        groundAt(x, 0, far);
        given(x, "a ground on the other side", 3, 0, 10, 1);
        groundAt(x, far - SIDE - 4_999, far);
        refusedBy(x, "near the far one's x1", 0, 0, 10, 1);
        groundAt(x, far, far - SIDE - 4_999);
        refusedBy(x, "near the far one's y1", 0, 0, 10, 1);
    }

    private static void promise20Clash() {
        InspectRows x = new InspectRows();
        Check.equal("before the first", x.clash(), -1);
        Check.refuses("a range refused", Check.RANGE, () -> x.permit(5, 5, 1));
        Check.equal("before the first but for ranges", x.clash(), -1);
        refusedBy(x, "no ground", -2, 0, 1, 1);
        groundAt(x, 0, 0);
        Check.equal("a ground told later leaves it", x.clash(), -2);
        refusedBy(x, "space", -3, 0, 10, 201);
        Check.refuses("a range refused later", Check.RANGE, () -> x.permit(0, 1, 0));
        Check.equal("a range refused leaves it", x.clash(), -3);
        given(x, "permit 0", 0, 0, 10, 1);
        groundAt(x, 20_000, 0);
        given(x, "permit 1", 1, 0, 10, 1);
        groundAt(x, 12_000, 0);
        refusedBy(x, "near both: the lowest", 0, 0, 10, 1);
        refusedBy(x, "near both and no space: space first", -3, 0, 10, 201);
        groundAt(x, 22_000, 0);
        refusedBy(x, "near the second", 1, 0, 10, 1);
        given(x, "at another time", 2, 10, 20, 1);
        Check.refuses("a refused one has no number", Check.UNKNOWN, () -> x.touches(3));
    }

    private static void checkTouches(int from, int to, int due) {
        InspectRows x = new InspectRows();
        groundAt(x, 0, 0);
        x.permit(from, to, 1);
        Check.equal("touches of " + from + " .. " + to, x.touches(0), due);
        Check.refuses("touches(1)", Check.UNKNOWN, () -> x.touches(1));
        Check.refuses("touches(-1)", Check.UNKNOWN, () -> x.touches(-1));
    }

    private static void promise21Touches() {
        checkTouches(0, 1, 1);
        checkTouches(0, 1_440, 1);
        checkTouches(0, 1_441, 2);
        checkTouches(1_439, 1_440, 1);
        checkTouches(1_439, 1_441, 2);
        checkTouches(1_440, 2_880, 1);
        checkTouches(1_439, 2_881, 3);
        checkTouches(0, 9_999_999, 6_945);
        checkTouches(9_999_998, 9_999_999, 1);
    }
}
