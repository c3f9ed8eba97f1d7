/** Promises 1 to 7, 11 and 12: kinds, steps, intervals, points, the day, visits, who is due. */
public final class PointsTest {
    public static void main(String[] args) {
        Check.test("promise 1, new object", PointsTest::promise1NewObject);
        Check.test("promise 2, weight", PointsTest::promise2Weight);
        Check.test("promise 3, steps", PointsTest::promise3Steps);
        Check.test("promise 4, interval", PointsTest::promise4Interval);
        Check.test("promise 5, point", PointsTest::promise5Point);
        Check.test("promise 6, day", PointsTest::promise6Day);
        Check.test("promise 7, visit", PointsTest::promise7Visit);
        Check.test("promise 11, point at", PointsTest::promise11PointAt);
        Check.test("promise 12, due by interval", PointsTest::promise12DueByInterval);
        Check.test("promise 12, due in order", PointsTest::promise12DueInOrder);
        Check.test("promise 12, due by the present class", PointsTest::promise12DueByThePresentClass);
        Check.test("promise 12, due refusals", PointsTest::promise12DueRefusals);
        Check.finish();
    }

    /** A point whose risk is this, by its people alone. */
    private static int pointOfRisk(InspectRows x, int risk) {
        return x.point(0, 0, risk * 100, 0, 0);
    }

    private static void promise1NewObject() {
        InspectRows x = new InspectRows();
        Check.refuses("a new object's point 0", Check.UNKNOWN, () -> x.pointAt(0, 0));
        Check.refuses("a new object's finding 0", Check.UNKNOWN, () -> x.findingAt(0, 0));
        Check.refuses("a new object's permit 0", Check.UNKNOWN, () -> x.touches(0));
        Check.refuses("a new object's surprise", Check.STATE, () -> x.surprise(1));
        Check.equal("a new object's first due", x.due(0, 0), -1);
        Check.equal("a new object's first stop", x.stop(0), -1);
        Check.equal("a new object's clash", x.clash(), -1);
        for (int kind = 0; kind < 5; kind++) {
            Check.equal("point of kind " + kind, x.point(kind, 0, 0, 0, 0), kind);
            Check.equal("weight of kind " + kind + " at first", x.pointAt(kind, 0), 0);
        }
        InspectRows other = new InspectRows();
        Check.refuses("another object's point 0", Check.UNKNOWN, () -> other.pointAt(0, 0));
    }

    private static void promise2Weight() {
        InspectRows x = new InspectRows();
        x.point(0, 0, 0, 0, 0);
        x.point(4, 0, 0, 0, 0);
        x.weight(4, 100);
        x.weight(0, 1);
        Check.equal("risk by weight 1", x.pointAt(0, 0), 1);
        Check.equal("risk by weight 100", x.pointAt(1, 0), 100);
        x.weight(4, 0);
        Check.equal("risk by weight 0", x.pointAt(1, 0), 0);
        Check.refuses("weight(5, 1)", Check.UNKNOWN, () -> x.weight(5, 1));
        Check.refuses("weight(-1, 1)", Check.UNKNOWN, () -> x.weight(-1, 1));
        Check.refuses("weight(5, 101): unknown first", Check.UNKNOWN, () -> x.weight(5, 101));
        Check.refuses("weight(0, 101)", Check.RANGE, () -> x.weight(0, 101));
        Check.refuses("weight(0, -1)", Check.RANGE, () -> x.weight(0, -1));
        Check.equal("risk after refused weights", x.pointAt(0, 0), 1);
    }

    private static void checkClasses(InspectRows x, String when, int... due) {
        for (int point = 0; point < due.length; point++) {
            Check.equal(when + ", class of point " + point, x.pointAt(point, 1), due[point]);
        }
    }

    private static void promise3Steps() {
        InspectRows x = new InspectRows();
        for (int risk : new int[] {0, 9, 10, 19, 20, 29, 30, 1_000}) {
            pointOfRisk(x, risk);
        }
        checkClasses(x, "steps at first", 0, 0, 1, 1, 2, 2, 3, 3);
        x.steps(9, 9, 20);
        checkClasses(x, "steps 9 9 20", 0, 2, 2, 2, 3, 3, 3, 3);
        x.steps(0, 0, 0);
        checkClasses(x, "steps 0 0 0", 3, 3, 3, 3, 3, 3, 3, 3);
        x.steps(0, 1_000, 100_000);
        checkClasses(x, "steps 0 1000 100000", 1, 1, 1, 1, 1, 1, 1, 2);
        x.steps(100_000, 100_000, 100_000);
        checkClasses(x, "steps all 100000", 0, 0, 0, 0, 0, 0, 0, 0);
        x.steps(10, 11, 12);
        Check.refuses("steps(-1, 0, 1)", Check.RANGE, () -> x.steps(-1, 0, 1));
        Check.refuses("steps(0, 1, 100001)", Check.RANGE, () -> x.steps(0, 1, 100_001));
        Check.refuses("steps(2, 1, 3)", Check.RANGE, () -> x.steps(2, 1, 3));
        Check.refuses("steps(1, 3, 2)", Check.RANGE, () -> x.steps(1, 3, 2));
        checkClasses(x, "steps after refusals", 0, 0, 1, 3, 3, 3, 3, 3);
    }

    private static void promise4Interval() {
        InspectRows x = new InspectRows();
        int[] atFirst = {1_000, 500, 200, 100};
        for (int cls = 0; cls < 4; cls++) {
            pointOfRisk(x, cls * 10);
            x.visit(cls);
            Check.equal("interval at first of class " + cls, x.pointAt(cls, 3), atFirst[cls]);
            Check.equal("time at first of class " + cls, x.findingAt(x.finding(cls, 1, -1), 3), 30);
        }
        x.interval(0, 4_000, 0);
        x.interval(3, 1, 1_000);
        Check.equal("interval 4000", x.pointAt(0, 3), 4_000);
        Check.equal("interval 1", x.pointAt(3, 3), 1);
        Check.equal("time 0", x.findingAt(x.finding(0, 1, -1), 3), 0);
        Check.equal("time 1000", x.findingAt(x.finding(3, 1, -1), 3), 1_000);
        Check.equal("an interval of another class", x.pointAt(1, 3), 500);
        Check.refuses("interval(4, 1, 1)", Check.UNKNOWN, () -> x.interval(4, 1, 1));
        Check.refuses("interval(-1, 1, 1)", Check.UNKNOWN, () -> x.interval(-1, 1, 1));
        Check.refuses("interval(4, 0, 1): unknown first", Check.UNKNOWN, () -> x.interval(4, 0, 1));
        Check.refuses("interval(0, 0, 5)", Check.RANGE, () -> x.interval(0, 0, 5));
        Check.refuses("interval(0, 4001, 5)", Check.RANGE, () -> x.interval(0, 4_001, 5));
        Check.refuses("interval(0, 7, -1)", Check.RANGE, () -> x.interval(0, 7, -1));
        Check.refuses("interval(0, 7, 1001)", Check.RANGE, () -> x.interval(0, 7, 1_001));
        Check.equal("interval after refusals", x.pointAt(0, 3), 4_000);
        Check.equal("time after refusals", x.findingAt(x.finding(0, 1, -1), 3), 0);
    }

    private static void promise5Point() {
        InspectRows x = new InspectRows();
        Check.equal("the first point", x.point(0, 3_000, 100_000, -10_000, 10_000), 0);
        Check.equal("the second point", x.point(4, 29, 99, 10_000, -10_000), 1);
        Check.equal("the third point", x.point(2, 59, 199, 0, 0), 2);
        Check.equal("the greatest own risk", x.pointAt(0, 0), 1_100);
        Check.equal("whole quotients below one", x.pointAt(1, 0), 0);
        Check.equal("whole quotients below two", x.pointAt(2, 0), 2);
        Check.refuses("point(5, ..)", Check.UNKNOWN, () -> x.point(5, 0, 0, 0, 0));
        Check.refuses("point(-1, ..)", Check.UNKNOWN, () -> x.point(-1, 0, 0, 0, 0));
        Check.refuses("point(5, 3001, ..): unknown first", Check.UNKNOWN, () -> x.point(5, 3_001, 0, 0, 0));
        checkPointRanges(x);
        for (int i = 3; i < 30; i++) {
            Check.equal("point " + i, x.point(0, 0, 0, 0, 0), i);
        }
        Check.equal("risk of the thirtieth", x.pointAt(29, 0), 0);
        Check.equal("the thirtieth is due last", x.due(0, 29), 29);
        Check.equal("none is due behind it", x.due(0, 30), -1);
        Check.refuses("a point more than 30", Check.ROOM, () -> x.point(0, 0, 0, 0, 0));
        checkPointRanges(x);
        Check.refuses("kind 5 without room: unknown first", Check.UNKNOWN, () -> x.point(5, 0, 0, 0, 0));
        Check.refuses("pointAt(30, 0)", Check.UNKNOWN, () -> x.pointAt(30, 0));
    }

    private static void checkPointRanges(InspectRows x) {
        Check.refuses("height -1", Check.RANGE, () -> x.point(0, -1, 0, 0, 0));
        Check.refuses("height 3001", Check.RANGE, () -> x.point(0, 3_001, 0, 0, 0));
        Check.refuses("people -1", Check.RANGE, () -> x.point(0, 0, -1, 0, 0));
        Check.refuses("people 100001", Check.RANGE, () -> x.point(0, 0, 100_001, 0, 0));
        Check.refuses("x -10001", Check.RANGE, () -> x.point(0, 0, 0, -10_001, 0));
        Check.refuses("x 10001", Check.RANGE, () -> x.point(0, 0, 0, 10_001, 0));
        Check.refuses("y -10001", Check.RANGE, () -> x.point(0, 0, 0, 0, -10_001));
        Check.refuses("y 10001", Check.RANGE, () -> x.point(0, 0, 0, 0, 10_001));
    }

    private static void promise6Day() {
        InspectRows x = new InspectRows();
        x.point(0, 0, 0, 0, 0);
        x.visit(0);
        Check.equal("the day at first", x.pointAt(0, 2), 0);
        Check.refuses("day(-1)", Check.RANGE, () -> x.day(-1));
        x.day(7);
        x.day(7);
        x.visit(0);
        Check.equal("the day after day(7)", x.pointAt(0, 2), 7);
        Check.refuses("day(6) on day 7", Check.RANGE, () -> x.day(6));
        Check.refuses("day(100000)", Check.RANGE, () -> x.day(100_000));
        x.visit(0);
        Check.equal("the day after refusals", x.pointAt(0, 2), 7);
        x.day(99_999);
        x.visit(0);
        Check.equal("the last day", x.pointAt(0, 2), 99_999);
        x.day(99_999);
        Check.refuses("a day behind the last", Check.RANGE, () -> x.day(100_000));
    }

    private static void promise7Visit() {
        InspectRows x = new InspectRows();
        Check.refuses("visit(0) without points", Check.UNKNOWN, () -> x.visit(0));
        x.point(0, 0, 0, 0, 0);
        x.point(0, 0, 0, 0, 0);
        x.day(3);
        x.visit(1);
        Check.equal("a point not visited", x.pointAt(0, 2), -1);
        Check.equal("a point visited", x.pointAt(1, 2), 3);
        x.day(8);
        Check.equal("a visit stays on its day", x.pointAt(1, 2), 3);
        x.visit(1);
        Check.equal("the latest visit counts", x.pointAt(1, 2), 8);
        Check.refuses("visit(2)", Check.UNKNOWN, () -> x.visit(2));
        Check.refuses("visit(-1)", Check.UNKNOWN, () -> x.visit(-1));
        Check.equal("a refused visit changes nothing", x.pointAt(0, 2), -1);
    }

    private static void promise11PointAt() {
        InspectRows x = new InspectRows();
        x.weight(2, 5);
        x.point(2, 60, 300, 0, 0);
        Check.equal("risk of kind, height, people", x.pointAt(0, 0), 10);
        Check.equal("class", x.pointAt(0, 1), 1);
        Check.equal("no visit", x.pointAt(0, 2), -1);
        Check.equal("first due day without a visit", x.pointAt(0, 3), 0);
        Check.equal("no open findings", x.pointAt(0, 4), 0);
        x.day(100);
        Check.equal("first due day without a visit, later", x.pointAt(0, 3), 0);
        x.visit(0);
        Check.equal("first due day", x.pointAt(0, 3), 600);
        int first = x.finding(0, 10, 5);
        x.finding(0, 4, 6);
        Check.equal("risk with findings", x.pointAt(0, 0), 24);
        Check.equal("open findings", x.pointAt(0, 4), 2);
        Check.equal("first due day by a higher class", x.pointAt(0, 3), 300);
        x.day(105);
        Check.equal("risk on a finding's last day", x.pointAt(0, 0), 24);
        x.day(106);
        Check.equal("risk with one missed", x.pointAt(0, 0), 34);
        Check.equal("first due day with one missed", x.pointAt(0, 3), 200);
        Check.equal("missed ones are open", x.pointAt(0, 4), 2);
        x.done(first, 1);
        Check.equal("risk with the missed one done", x.pointAt(0, 0), 14);
        Check.equal("open findings with one done", x.pointAt(0, 4), 1);
        Check.equal("first due day with one done", x.pointAt(0, 3), 600);
        Check.refuses("pointAt(1, 0)", Check.UNKNOWN, () -> x.pointAt(1, 0));
        Check.refuses("pointAt(-1, 0)", Check.UNKNOWN, () -> x.pointAt(-1, 0));
        Check.refuses("pointAt(0, 5)", Check.UNKNOWN, () -> x.pointAt(0, 5));
        Check.refuses("pointAt(0, -1)", Check.UNKNOWN, () -> x.pointAt(0, -1));
        x.day(99_999);
        x.visit(0);
        Check.equal("a first due day behind the last day is told as it is", x.pointAt(0, 3), 100_499);
    }

    private static void checkDue(InspectRows x, int day, int... due) {
        for (int i = 0; i < due.length; i++) {
            Check.equal("due(" + day + ", " + i + ")", x.due(day, i), due[i]);
        }
        Check.equal("due(" + day + ", " + due.length + ")", x.due(day, due.length), -1);
    }

    private static void promise12DueByInterval() {
        InspectRows x = new InspectRows();
        x.day(10);
        pointOfRisk(x, 0);
        checkDue(x, 10, 0);
        checkDue(x, 99_999, 0);
        x.visit(0);
        checkDue(x, 10);
        checkDue(x, 1_009);
        checkDue(x, 1_010, 0);
        checkDue(x, 99_999, 0);
        x.day(1_010);
        checkDue(x, 1_010, 0);
        x.visit(0);
        checkDue(x, 1_010);
    }

    private static void promise12DueInOrder() {
        InspectRows x = new InspectRows();
        for (int risk : new int[] {5, 8, 5, 5, 8, 5, 40}) {
            pointOfRisk(x, risk);
        }
        checkDue(x, 0, 6, 1, 4, 0, 2, 3, 5);
        x.visit(1);
        x.visit(3);
        x.visit(6);
        x.day(1);
        x.visit(0);
        x.day(2);
        x.visit(5);
        checkDue(x, 2, 4, 2);
        checkDue(x, 100, 6, 4, 2);
        checkDue(x, 1_000, 6, 4, 1, 2, 3);
        checkDue(x, 1_001, 6, 4, 1, 2, 3, 0);
        checkDue(x, 1_002, 6, 4, 1, 2, 3, 0, 5);
        x.visit(3);
        checkDue(x, 1_002, 6, 4, 1, 2, 0, 3, 5);
    }

    private static void promise12DueByThePresentClass() {
        InspectRows x = new InspectRows();
        pointOfRisk(x, 0);
        pointOfRisk(x, 15);
        x.visit(0);
        x.visit(1);
        x.finding(0, 10, 50);
        checkDue(x, 499);
        // On day 500 the finding will be missed, but the class and the order are those of today.
        checkDue(x, 500, 1, 0);
        x.day(51);
        checkDue(x, 199);
        checkDue(x, 200, 0);
        checkDue(x, 500, 0, 1);
    }

    private static void promise12DueRefusals() {
        InspectRows x = new InspectRows();
        pointOfRisk(x, 0);
        x.day(4);
        Check.refuses("due(3, 0) on day 4", Check.RANGE, () -> x.due(3, 0));
        Check.refuses("due(100000, 0)", Check.RANGE, () -> x.due(100_000, 0));
        Check.refuses("due(4, -1)", Check.RANGE, () -> x.due(4, -1));
        Check.equal("due far behind the last", x.due(4, Integer.MAX_VALUE), -1);
        Check.equal("due(4, 0)", x.due(4, 0), 0);
        Check.equal("due(99999, 0)", x.due(99_999, 0), 0);
        x.visit(0);
        Check.equal("asking who is due leaves the day", x.pointAt(0, 2), 4);
    }
}
