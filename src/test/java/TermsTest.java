/** The document's Terms, sentence by sentence: each edge that they name, seen through the answers. */
public final class TermsTest {
    private static final int FARTHEST = 10_000_000;

    public static void main(String[] args) {
        Check.test("days", TermsTest::days);
        Check.test("kinds and their weights", TermsTest::kinds);
        Check.test("heights and people as whole quotients", TermsTest::quotients);
        Check.test("places", TermsTest::places);
        Check.test("the latest visit", TermsTest::latestVisit);
        Check.test("open, missed, done", TermsTest::openMissedDone);
        Check.test("the weights of findings", TermsTest::findingWeights);
        Check.test("the steps at first", TermsTest::stepsAtFirst);
        Check.test("steps that are the same", TermsTest::sameSteps);
        Check.test("steps at their ends", TermsTest::stepsAtTheirEnds);
        Check.test("intervals at first", TermsTest::intervalsAtFirst);
        Check.test("times at first", TermsTest::timesAtFirst);
        Check.test("intervals and times at their ends", TermsTest::intervalsAtTheirEnds);
        Check.test("due by an interval", TermsTest::dueByAnInterval);
        Check.test("due by the class of the present day", TermsTest::dueByThePresentClass);
        Check.test("those due by risk", TermsTest::dueByRisk);
        Check.test("those due by visits", TermsTest::dueByVisits);
        Check.test("those due by numbers", TermsTest::dueByNumbers);
        Check.test("where a question leads", TermsTest::questionsLead);
        Check.test("a question that is to be told", TermsTest::questionToBeTold);
        Check.test("answers by bits", TermsTest::answersByBits);
        Check.test("walks there and back", TermsTest::walksThereAndBack);
        Check.test("walks of the same length", TermsTest::walksOfTheSameLength);
        Check.test("minutes of permits", TermsTest::minutes);
        Check.test("space at its ends", TermsTest::space);
        Check.test("distance at its ends", TermsTest::distance);
        Check.test("the least distance of grounds", TermsTest::leastDistance);
        Check.test("rules of two permits", TermsTest::onlyTheNewOneNeedsDistance);
        Check.finish();
    }

    private static InspectRows withPoints(int n) {
        InspectRows x = new InspectRows();
        for (int i = 0; i < n; i++) {
            x.point(0, 0, 0, 0, 0);
        }
        return x;
    }

    private static void dueAre(InspectRows x, int day, int... due) {
        for (int i = 0; i < due.length; i++) {
            Check.equal("due(" + day + ", " + i + ")", x.due(day, i), due[i]);
        }
        Check.equal("due(" + day + ", " + due.length + ")", x.due(day, due.length), -1);
    }

    /** "DAYS are 0 .. 99,999; THE DAY is 0 at first and never goes back." */
    private static void days() {
        InspectRows x = withPoints(1);
        x.visit(0);
        Check.equal("the day at first", x.pointAt(0, 2), 0);
        x.day(0);
        x.day(1);
        Check.refuses("day(0) on day 1", Check.RANGE, () -> x.day(0));
        x.day(1);
        x.day(99_998);
        x.visit(0);
        Check.equal("the day ahead of the last", x.pointAt(0, 2), 99_998);
        x.day(99_999);
        Check.refuses("day(99998) on the last day", Check.RANGE, () -> x.day(99_998));
        Check.refuses("day(0) on the last day", Check.RANGE, () -> x.day(0));
        x.visit(0);
        Check.equal("the last day", x.pointAt(0, 2), 99_999);
        Check.equal("due on the last day", x.due(99_999, 0), -1);
    }

    /** "KINDS 0 .. 4 have a WEIGHT (0 .. 100; 0 at first)." */
    private static void kinds() {
        InspectRows x = new InspectRows();
        for (int kind = 0; kind < 5; kind++) {
            x.point(kind, 0, 0, 0, 0);
            Check.equal("weight of kind " + kind + " at first", x.pointAt(kind, 0), 0);
        }
        for (int kind = 0; kind < 5; kind++) {
            for (int w : new int[] {1, 99, 100, 0}) {
                x.weight(kind, w);
                for (int other = 0; other < 5; other++) {
                    Check.equal("weight(" + kind + ", " + w + "), kind " + other,
                        x.pointAt(other, 0), other == kind ? w : 0);
                }
            }
        }
        x.weight(3, 100);
        Check.equal("a point made later", x.pointAt(x.point(3, 0, 0, 0, 0), 0), 100);
    }

    /** "its height over 30, its people over 100 (whole quotients)" */
    private static void quotients() {
        int[][] rows = {
            {0, 0, 0}, {29, 0, 0}, {30, 0, 1}, {59, 0, 1}, {60, 0, 2}, {2_999, 0, 99}, {3_000, 0, 100},
            {0, 99, 0}, {0, 100, 1}, {0, 199, 1}, {0, 200, 2}, {0, 99_999, 999}, {0, 100_000, 1_000},
            {29, 99, 0}, {30, 99, 1}, {29, 100, 1}, {2_999, 99_999, 1_098}, {3_000, 100_000, 1_100},
        };
        InspectRows x = new InspectRows();
        for (int[] row : rows) {
            int point = x.point(0, row[0], row[1], 0, 0);
            Check.equal("risk by height " + row[0] + " and people " + row[1], x.pointAt(point, 0), row[2]);
        }
    }

    /** "a place x, y (-10,000 .. 10,000 metres)" */
    private static void places() {
        int[][] rows = {
            {-10_000, -10_000}, {-10_000, 10_000}, {10_000, -10_000}, {10_000, 10_000}, {-10_000, 0}, {0, 10_000},
            {-1, 0}, {0, -1}, {0, 0}, {9_999, -9_999},
        };
        InspectRows x = new InspectRows();
        for (int[] row : rows) {
            int point = x.point(0, 0, 0, row[0], row[1]);
            int metres = (row[0] < 0 ? -row[0] : row[0]) + (row[1] < 0 ? -row[1] : row[1]);
            Check.equal("to " + row[0] + ", " + row[1] + " and back", x.walk(point, 1), 2 * metres);
        }
    }

    /** "the day of the latest VISIT, or none" */
    private static void latestVisit() {
        InspectRows x = withPoints(3);
        Check.equal("none", x.pointAt(0, 2), -1);
        x.visit(0);
        x.visit(0);
        Check.equal("on day 0, twice", x.pointAt(0, 2), 0);
        x.day(1);
        Check.equal("no visit on day 1", x.pointAt(0, 2), 0);
        x.visit(0);
        Check.equal("on day 1", x.pointAt(0, 2), 1);
        Check.equal("none of the next point", x.pointAt(1, 2), -1);
        x.day(99_999);
        x.visit(2);
        Check.equal("on the last day", x.pointAt(2, 2), 99_999);
    }

    private static void findingIs(InspectRows x, String when, int finding, int open, int missed) {
        Check.equal(when + ", open", x.findingAt(finding, 1), open);
        Check.equal(when + ", missed", x.findingAt(finding, 2), missed);
    }

    /** "a day by which they are to be done (the last one in time)", "An open one whose day has passed is MISSED." */
    private static void openMissedDone() {
        InspectRows x = withPoints(1);
        x.day(7);
        x.finding(0, 4, 0);
        x.finding(0, 3, 1);
        findingIs(x, "0 days, on its day", 0, 1, 0);
        Check.equal("risk on its day", x.pointAt(0, 0), 7);
        x.day(8);
        findingIs(x, "0 days, a day later", 0, 1, 1);
        findingIs(x, "1 day, on its day", 1, 1, 0);
        Check.equal("risk with one missed", x.pointAt(0, 0), 11);
        x.day(9);
        findingIs(x, "1 day, a day later", 1, 1, 1);
        Check.equal("risk with both missed", x.pointAt(0, 0), 14);
        x.done(0, 1);
        findingIs(x, "missed, then done", 0, 0, 0);
        Check.equal("risk with one of the missed done", x.pointAt(0, 0), 6);
        x.day(99_999);
        findingIs(x, "done long ago", 0, 0, 0);
        Check.equal("a missed one is doubled once", x.pointAt(0, 0), 6);
        x.finding(0, 5, 1_000);
        findingIs(x, "to be done behind the last day", 2, 1, 0);
        x.finding(0, 2, 0);
        findingIs(x, "to be done on the last day", 3, 1, 0);
    }

    /** "have a weight (1 .. 50)", "the weights of its open findings, twice those of missed ones" */
    private static void findingWeights() {
        InspectRows x = withPoints(2);
        int[] weights = {1, 2, 49, 50};
        int sum = 0;
        for (int weight : weights) {
            x.finding(1, weight, 5);
            sum += weight;
            Check.equal("risk with weight " + weight, x.pointAt(1, 0), sum);
        }
        Check.equal("risk of a point without findings", x.pointAt(0, 0), 0);
        x.day(6);
        Check.equal("risk with all missed", x.pointAt(1, 0), 2 * sum);
        x.finding(1, 50, 0);
        Check.equal("risk with one in time", x.pointAt(1, 0), 2 * sum + 50);
        for (int finding = 0; finding < weights.length; finding++) {
            x.done(finding, 1);
            sum -= weights[finding];
            Check.equal("risk with finding " + finding + " done", x.pointAt(1, 0), 2 * sum + 50);
        }
    }

    private static void classByWeights(InspectRows x, int[] weights, int... classes) {
        for (int i = 0; i < weights.length; i++) {
            x.weight(0, weights[i]);
            Check.equal("class at risk " + weights[i], x.pointAt(0, 1), classes[i]);
        }
    }

    /** "how many of three STEPS (..; 10, 20, 30 at first) are not above the risk" */
    private static void stepsAtFirst() {
        classByWeights(withPoints(1), new int[] {0, 9, 10, 11, 19, 20, 21, 29, 30, 31, 100},
            0, 0, 1, 1, 1, 2, 2, 2, 3, 3, 3);
    }

    /** "none below the one before": the same is fine. */
    private static void sameSteps() {
        InspectRows x = withPoints(1);
        x.steps(40, 40, 40);
        classByWeights(x, new int[] {39, 40, 41}, 0, 3, 3);
        x.steps(40, 40, 41);
        classByWeights(x, new int[] {39, 40, 41}, 0, 2, 3);
        x.steps(40, 41, 41);
        classByWeights(x, new int[] {39, 40, 41}, 0, 1, 3);
        Check.refuses("steps(41, 40, 41)", Check.RANGE, () -> x.steps(41, 40, 41));
        Check.refuses("steps(40, 41, 40)", Check.RANGE, () -> x.steps(40, 41, 40));
        Check.refuses("steps(41, 40, 40)", Check.RANGE, () -> x.steps(41, 40, 40));
        classByWeights(x, new int[] {39, 40, 41}, 0, 1, 3);
    }

    /** "STEPS (0 .. 100,000 ..)" */
    private static void stepsAtTheirEnds() {
        InspectRows x = withPoints(1);
        x.steps(0, 0, 0);
        classByWeights(x, new int[] {0, 1}, 3, 3);
        x.steps(0, 0, 1);
        classByWeights(x, new int[] {0, 1}, 2, 3);
        x.steps(0, 1, 1);
        classByWeights(x, new int[] {0, 1}, 1, 3);
        x.steps(1, 1, 1);
        classByWeights(x, new int[] {0, 1}, 0, 3);
        x.steps(0, 0, 100_000);
        classByWeights(x, new int[] {0, 100}, 2, 2);
        x.steps(0, 100_000, 100_000);
        classByWeights(x, new int[] {0, 100}, 1, 1);
        x.steps(100_000, 100_000, 100_000);
        classByWeights(x, new int[] {0, 100}, 0, 0);
    }

    /** Brings all points into a class, whatever their risk is. */
    private static void toClass(InspectRows x, int cls) {
        x.steps(cls > 0 ? 0 : 100_000, cls > 1 ? 0 : 100_000, cls > 2 ? 0 : 100_000);
        Check.equal("class by steps", x.pointAt(0, 1), cls);
    }

    /** "an INTERVAL (..; 1,000, 500, 200, 100 at first)" */
    private static void intervalsAtFirst() {
        int[] atFirst = {1_000, 500, 200, 100};
        InspectRows x = withPoints(1);
        x.day(3);
        x.visit(0);
        for (int cls = 0; cls < 4; cls++) {
            toClass(x, cls);
            Check.equal("first due day of class " + cls, x.pointAt(0, 3), 3 + atFirst[cls]);
            dueAre(x, 2 + atFirst[cls]);
            dueAre(x, 3 + atFirst[cls], 0);
        }
    }

    /** "a TIME (..; 30 at first)" */
    private static void timesAtFirst() {
        InspectRows x = withPoints(1);
        x.question(0, -1, -1, 1);
        for (int cls = 0; cls < 4; cls++) {
            toClass(x, cls);
            Check.equal("time of class " + cls, x.findingAt(x.finding(0, 1, -1), 3), 30);
            x.list(0, 0);
            Check.equal("time of class " + cls + " by a list", x.findingAt(2 * cls + 1, 3), 30);
        }
    }

    /** "an INTERVAL (1 .. 4,000 days ..) and a TIME (0 .. 1,000 days ..)" */
    private static void intervalsAtTheirEnds() {
        InspectRows x = withPoints(1);
        x.visit(0);
        for (int cls = 0; cls < 4; cls++) {
            toClass(x, cls);
            x.interval(cls, 1, 1_000);
            Check.equal("interval 1 of class " + cls, x.pointAt(0, 3), 1);
            Check.equal("time 1000 of class " + cls, x.findingAt(x.finding(0, 1, -1), 3), 1_000);
            x.interval(cls, 4_000, 0);
            Check.equal("interval 4000 of class " + cls, x.pointAt(0, 3), 4_000);
            Check.equal("time 0 of class " + cls, x.findingAt(x.finding(0, 1, -1), 3), 0);
            dueAre(x, 3_999);
            dueAre(x, 4_000, 0);
            x.interval(cls, 2_000 + cls, 100 + cls);
        }
        for (int cls = 0; cls < 4; cls++) {
            toClass(x, cls);
            Check.equal("interval of class " + cls + " is its own", x.pointAt(0, 3), 2_000 + cls);
            Check.equal("time of class " + cls + " is its own", x.findingAt(x.finding(0, 1, -1), 3), 100 + cls);
        }
    }

    /** "A point is DUE on a day when it had no visit, or its interval .. has gone by since the latest one by then." */
    private static void dueByAnInterval() {
        InspectRows x = withPoints(1);
        dueAre(x, 0, 0);
        x.interval(0, 1, 0);
        x.visit(0);
        dueAre(x, 0);
        dueAre(x, 1, 0);
        x.day(1);
        dueAre(x, 1, 0);
        x.visit(0);
        dueAre(x, 1);
        dueAre(x, 2, 0);
        x.day(99_998);
        x.visit(0);
        dueAre(x, 99_998);
        dueAre(x, 99_999, 0);
        x.interval(0, 2, 0);
        dueAre(x, 99_999);
        Check.equal("first due behind the last day", x.pointAt(0, 3), 100_000);
    }

    /** "(by its class on the present day)": not by that of the day asked for, nor of the visit. */
    private static void dueByThePresentClass() {
        InspectRows x = withPoints(1);
        x.visit(0);
        x.finding(0, 5, 0);
        dueAre(x, 999);
        dueAre(x, 1_000, 0);
        x.day(1);
        dueAre(x, 499);
        dueAre(x, 500, 0);
        Check.equal("first due by the missed one", x.pointAt(0, 3), 500);
        x.done(0, 1);
        dueAre(x, 999);
        Check.equal("first due with it done", x.pointAt(0, 3), 1_000);
        x.weight(0, 30);
        dueAre(x, 99);
        dueAre(x, 100, 0);
    }

    /** "greater risk first" */
    private static void dueByRisk() {
        InspectRows x = new InspectRows();
        x.point(0, 0, 100, 0, 0);
        x.point(0, 0, 100_000, 0, 0);
        x.point(0, 0, 200, 0, 0);
        dueAre(x, 0, 1, 2, 0);
        x.finding(0, 2, 3);
        dueAre(x, 0, 1, 0, 2);
        x.visit(0);
        x.day(3);
        dueAre(x, 1_000, 1, 0, 2);
        x.finding(2, 2, 0);
        dueAre(x, 1_000, 1, 2, 0);
        x.day(4);
        dueAre(x, 1_000, 1, 2, 0);
        x.done(1, 1);
        dueAre(x, 1_000, 1, 0, 2);
    }

    /** "of the same without a visit first, then with the earlier visit" */
    private static void dueByVisits() {
        InspectRows x = withPoints(4);
        x.day(1);
        x.visit(2);
        x.day(2);
        x.visit(1);
        x.visit(0);
        dueAre(x, 2, 3);
        dueAre(x, 1_000, 3);
        dueAre(x, 1_001, 3, 2);
        dueAre(x, 1_002, 3, 2, 0, 1);
        x.visit(3);
        dueAre(x, 1_002, 2, 0, 1, 3);
        x.day(3);
        x.visit(2);
        dueAre(x, 1_003, 0, 1, 3, 2);
        InspectRows early = withPoints(2);
        early.visit(0);
        dueAre(early, 1_000, 1, 0);
    }

    /** "then by numbers" */
    private static void dueByNumbers() {
        InspectRows x = withPoints(30);
        for (int i = 0; i < 30; i++) {
            Check.equal("due without visits, " + i, x.due(0, i), i);
        }
        for (int i = 29; i >= 0; i--) {
            x.visit(i);
        }
        Check.equal("none is due after visits", x.due(999, 0), -1);
        for (int i = 0; i < 30; i++) {
            Check.equal("due after visits, " + i, x.due(1_000, i), i);
        }
        Check.equal("behind thirty", x.due(1_000, 30), -1);
    }

    /** "where YES and NO lead (a question told or to be told, of a higher number; -1: the end)" */
    private static void questionsLead() {
        InspectRows x = withPoints(1);
        x.question(0, 1, 15, 1);
        x.question(1, -1, -1, 2);
        x.question(15, -1, -1, 4);
        Check.equal("yes, yes", x.list(0, 0b11), 0);
        Check.equal("yes, no", x.list(0, 0b01), 1);
        Check.equal("the finding of question 1", x.pointAt(0, 0), 2);
        Check.equal("no, yes at 15", x.list(0, 0x8000), 1);
        Check.equal("the finding of question 0", x.pointAt(0, 0), 3);
        Check.equal("no, no at 15", x.list(0, 0), 2);
        Check.equal("the findings of 0 and 15", x.pointAt(0, 0), 8);
        x.question(0, -1, -1, 50);
        Check.equal("no leads to the end", x.list(0, 0), 1);
        Check.equal("the greatest weight", x.pointAt(0, 0), 58);
        Check.equal("yes leads to the end", x.list(0, 1), 0);
        x.question(0, -1, -1, 0);
        Check.equal("weight 0 makes none", x.list(0, 0), 0);
        x.question(0, 14, -1, 0);
        x.question(14, 15, 15, 1);
        Check.equal("14 leads to 15", x.list(0, 0x0001), 2);
        Check.equal("the findings of 14 and 15", x.pointAt(0, 0), 63);
    }

    /** "it can be gone when all questions that it comes to are told" */
    private static void questionToBeTold() {
        InspectRows x = withPoints(1);
        x.question(0, 5, 6, 3);
        Check.refuses("5 is to be told", Check.STATE, () -> x.list(0, 1));
        Check.refuses("6 is to be told", Check.STATE, () -> x.list(0, 0));
        x.question(5, 15, -1, 0);
        Check.equal("5 is told, then the end", x.list(0, 1), 0);
        Check.refuses("15 is to be told", Check.STATE, () -> x.list(0, 0b100001));
        Check.refuses("6 is still to be told", Check.STATE, () -> x.list(0, 0));
        Check.equal("a list that can't be gone makes none", x.pointAt(0, 4), 0);
        x.question(15, -1, -1, 1);
        Check.equal("15 is told", x.list(0, 0b100001), 1);
        x.question(0, 5, -1, 3);
        Check.equal("6 is no longer come to", x.list(0, 0), 1);
    }

    /** "at question q the answer is bit q (1 yes)" */
    private static void answersByBits() {
        for (int q = 0; q < 16; q++) {
            InspectRows x = withPoints(1);
            for (int told = 0; told < 16; told++) {
                x.question(told, told == 15 ? -1 : told + 1, told == 15 ? -1 : told + 1, told + 1);
            }
            Check.equal("no at " + q + " alone", x.list(0, ~(1 << q)), 1);
            Check.equal("its weight", x.pointAt(0, 0), q + 1);
            Check.equal("yes at " + q + " alone", x.list(0, 1 << q), 15);
            Check.equal("all other weights", x.pointAt(0, 0), 136);
            Check.equal("bits above 15 are no answers", x.list(0, 0x7FFF_0000 | 1 << q), 15);
            Check.equal("nor is the sign", x.list(0, 0x8000_FFFF), 0);
        }
    }

    /** "goes from the place 0, 0 to some points .. and back, metres along x and y (differences without sign, together)" */
    private static void walksThereAndBack() {
        InspectRows x = new InspectRows();
        x.point(0, 0, 0, 3, -4);
        x.point(0, 0, 0, -3, 4);
        x.point(0, 0, 0, 0, 0);
        Check.equal("to none", x.walk(0, 0), 0);
        Check.equal("to one", x.walk(0, 1), 14);
        Check.equal("to its counterpart", x.walk(1, 1), 14);
        Check.equal("to 0, 0", x.walk(2, 1), 0);
        Check.equal("to both", x.walk(0 | 1 << 5, 2), 28);
        Check.equal("to all", x.walk(0 | 1 << 5 | 2 << 10, 3), 28);
    }

    private static void stopsAre(InspectRows x, int... stops) {
        for (int i = 0; i < stops.length; i++) {
            Check.equal("stop(" + i + ")", x.stop(i), stops[i]);
        }
        Check.equal("behind the last stop", x.stop(stops.length), -1);
    }

    /** "of these the first by the points' places in what was told": not by the points' numbers. */
    private static void walksOfTheSameLength() {
        InspectRows x = new InspectRows();
        for (int i = 0; i < 8; i++) {
            x.point(0, 0, 0, 5, 5);
        }
        Check.equal("seven in one place", x.walk(7L | 3L << 5 | 5L << 10 | 1L << 15 | 6L << 20 | 2L << 25 | 4L << 30, 7), 20);
        stopsAre(x, 7, 3, 5, 1, 6, 2, 4);
        InspectRows square = new InspectRows();
        square.point(0, 0, 0, 0, 1);
        square.point(0, 0, 0, 1, 1);
        square.point(0, 0, 0, 1, 0);
        Check.equal("the way round", square.walk(2L | 1L << 5 | 0L << 10, 3), 4);
        stopsAre(square, 2, 1, 0);
        Check.equal("the way round, the other way", square.walk(0L | 1L << 5 | 2L << 10, 3), 4);
        stopsAre(square, 0, 1, 2);
        // The corner can't be the first stop of a least walk, though it is told first.
        Check.equal("the corner told first", square.walk(1L | 2L << 5 | 0L << 10, 3), 4);
        stopsAre(square, 2, 1, 0);
        InspectRows line = new InspectRows();
        line.point(0, 0, 0, -1, 0);
        line.point(0, 0, 0, 1, 0);
        line.point(0, 0, 0, 2, 0);
        Check.equal("both sides of 0, 0", line.walk(2L | 0L << 5 | 1L << 10, 3), 6);
        stopsAre(line, 2, 1, 0);
    }

    private static int permitOf(InspectRows x, int x1, int y1, int from, int to) {
        x.ground(x1, y1, x1 + 1_000, y1 + 1_000);
        return x.permit(from, to, 1);
    }

    /** "from a minute to another one (0 .. 9,999,999; itself not)": whether two have a minute in common. */
    private static void minutes() {
        InspectRows x = new InspectRows();
        Check.equal("the first minute", permitOf(x, 0, 0, 0, 1), 0);
        Check.equal("the second minute", permitOf(x, 0, 0, 1, 2), 1);
        Check.refuses("both", Check.STATE, () -> x.permit(0, 2, 1));
        Check.equal("near the first", x.clash(), 0);
        Check.refuses("from the second on", Check.STATE, () -> x.permit(1, 9_999_999, 1));
        Check.equal("near the second", x.clash(), 1);
        Check.equal("the last minute", x.permit(9_999_998, 9_999_999, 1), 2);
        Check.refuses("the last two minutes", Check.STATE, () -> x.permit(9_999_997, 9_999_999, 1));
        Check.equal("near the third", x.clash(), 2);
        Check.equal("all between", x.permit(2, 9_999_998, 1), 3);
        Check.refuses("all minutes", Check.STATE, () -> x.permit(0, 9_999_999, 1));
        Check.equal("near the lowest", x.clash(), 0);
    }

    private static void spaceIs(InspectRows x, int crowd, boolean enough) {
        if (enough) {
            Check.takes("crowd " + crowd, () -> x.permit(0, 1, crowd));
            Check.equal("clash of crowd " + crowd, x.clash(), -1);
        } else {
            Check.refuses("crowd " + crowd, Check.STATE, () -> x.permit(0, 1, crowd));
            Check.equal("clash of crowd " + crowd, x.clash(), -3);
        }
    }

    /** "SPACE (0 .. 10,000,000 square millimetres a person; 500,000 at first) for its crowd on its ground" */
    private static void space() {
        InspectRows x = new InspectRows();
        x.ground(0, 0, 500, 1_000);
        spaceIs(x, 1, true);
        x.rules(500_001, 0);
        spaceIs(x, 1, false);
        x.rules(500_000, 0);
        spaceIs(x, 1, true);
        spaceIs(x, 2, false);
        x.rules(1, 0);
        spaceIs(x, 500_000, true);
        spaceIs(x, 500_001, false);
        x.rules(0, 0);
        x.ground(0, 0, 1, 1);
        spaceIs(x, 1_000_000, true);
        x.rules(1, 0);
        spaceIs(x, 1, true);
        spaceIs(x, 2, false);
        x.rules(10_000_000, 0);
        x.ground(0, 0, 1_000, 10_000);
        spaceIs(x, 1, true);
        spaceIs(x, 2, false);
        x.ground(0, 0, 999, 10_000);
        spaceIs(x, 1, false);
        x.ground(-500, -5_000, 500, 5_000);
        spaceIs(x, 1, true);
    }

    private static void gapIs(InspectRows x, int gap, boolean enough) {
        x.ground(1_000 + gap, 0, 2_000 + gap, 1_000);
        if (enough) {
            Check.takes("gap " + gap, () -> x.permit(0, 1, 1));
            Check.equal("clash by gap " + gap, x.clash(), -1);
        } else {
            Check.refuses("gap " + gap, Check.STATE, () -> x.permit(0, 1, 1));
            Check.equal("clash by gap " + gap, x.clash(), 0);
        }
    }

    private static InspectRows withPermit() {
        InspectRows x = new InspectRows();
        x.ground(0, 0, 1_000, 1_000);
        x.permit(0, 1, 1);
        return x;
    }

    private static InspectRows withPermit(int distance) {
        InspectRows x = withPermit();
        x.rules(0, distance);
        return x;
    }

    /** "a DISTANCE (0 .. 1,000,000 millimetres; 5,000 at first)" */
    private static void distance() {
        InspectRows atFirst = withPermit();
        gapIs(atFirst, 4_999, false);
        gapIs(atFirst, 5_000, true);
        InspectRows none = withPermit(0);
        gapIs(none, 0, true);
        gapIs(none, -1, true);
        gapIs(none, -1_000, true);
        InspectRows one = withPermit(1);
        gapIs(one, -1_000, false);
        gapIs(one, -1, false);
        gapIs(one, 0, false);
        gapIs(one, 1, true);
        InspectRows two = withPermit(2);
        gapIs(two, 1, false);
        gapIs(two, 2, true);
        InspectRows greatest = withPermit(1_000_000);
        gapIs(greatest, 999_999, false);
        gapIs(greatest, 1_000_000, true);
    }

    private static void cornerIs(int distance, int dx, int dy, boolean enough) {
        int[][] corners = {{1_000 + dx, 1_000 + dy}, {-1_000 - dx, 1_000 + dy},
            {1_000 + dx, -1_000 - dy}, {-1_000 - dx, -1_000 - dy}};
        for (int[] corner : corners) {
            InspectRows x = withPermit(distance);
            x.ground(corner[0], corner[1], corner[0] + 1_000, corner[1] + 1_000);
            String what = "distance " + distance + " at " + corner[0] + ", " + corner[1];
            if (enough) {
                Check.takes(what, () -> x.permit(0, 1, 1));
            } else {
                Check.refuses(what, Check.STATE, () -> x.permit(0, 1, 1));
            }
            Check.equal(what + ", clash", x.clash(), enough ? -1 : 0);
        }
    }

    /** "the square of the least distance of points of both grounds is not below the square of it" */
    private static void leastDistance() {
        cornerIs(5, 3, 4, true);
        cornerIs(5, 3, 3, false);
        cornerIs(5, 2, 4, false);
        cornerIs(5, 0, 5, true);
        cornerIs(5, 0, 4, false);
        cornerIs(2, 1, 1, false);
        cornerIs(1, 1, 0, true);
        cornerIs(1, 0, 0, false);
        cornerIs(3, 2, 2, false);
        cornerIs(3, 2, 3, true);
        cornerIs(7, 5, 5, true);
        cornerIs(8, 5, 6, false);
        InspectRows x = withPermit(10);
        x.ground(-500, -500, 1_500, 1_500);
        Check.refuses("a ground round the other", Check.STATE, () -> x.permit(0, 1, 1));
        x.ground(400, 400, 600, 600);
        Check.refuses("a ground within the other", Check.STATE, () -> x.permit(0, 1, 1));
        x.ground(-500, 400, 1_500, 600);
        Check.refuses("a ground across the other", Check.STATE, () -> x.permit(0, 1, 1));
        x.ground(-FARTHEST, 1_010, FARTHEST, 1_011);
        Check.takes("a long ground far enough", () -> x.permit(0, 1, 1));
    }

    /** "A permit needs .. a DISTANCE": that of the rules when it is asked for, whatever an older one needed. */
    private static void onlyTheNewOneNeedsDistance() {
        InspectRows x = new InspectRows();
        x.rules(0, 1_000_000);
        x.ground(0, 0, 1_000, 1_000);
        x.permit(0, 1, 1);
        x.rules(0, 1);
        gapIs(x, 0, false);
        gapIs(x, 1, true);
    }
}
