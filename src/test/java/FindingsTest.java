/** Promises 8 to 10, 13 and 14: findings, questions and lists. */
public final class FindingsTest {
    public static void main(String[] args) {
        Check.test("promise 8, finding", FindingsTest::promise8Finding);
        Check.test("promise 8, time of the class ahead", FindingsTest::promise8TimeOfTheClassAhead);
        Check.test("promise 8, refusals", FindingsTest::promise8Refusals);
        Check.test("promise 9, done", FindingsTest::promise9Done);
        Check.test("promise 9, proofs at their ends", FindingsTest::promise9ProofsAtTheirEnds);
        Check.test("promise 10, finding at", FindingsTest::promise10FindingAt);
        Check.test("promise 13, question", FindingsTest::promise13Question);
        Check.test("promise 14, list", FindingsTest::promise14List);
        Check.test("promise 14, list by answers", FindingsTest::promise14ListByAnswers);
        Check.test("promise 14, time of the class ahead", FindingsTest::promise14TimeOfTheClassAhead);
        Check.test("promise 14, room", FindingsTest::promise14Room);
        Check.finish();
    }

    private static InspectRows withPoints(int n) {
        InspectRows x = new InspectRows();
        for (int i = 0; i < n; i++) {
            x.point(0, 0, 0, 0, 0);
        }
        return x;
    }

    private static void promise8Finding() {
        InspectRows x = withPoints(2);
        Check.equal("the first finding", x.finding(1, 1, 0), 0);
        Check.equal("the second finding", x.finding(0, 50, 1_000), 1);
        Check.equal("point of the first", x.findingAt(0, 0), 1);
        Check.equal("day by 0 days", x.findingAt(0, 3), 0);
        Check.equal("day by 1000 days", x.findingAt(1, 3), 1_000);
        Check.equal("risk by weight 50", x.pointAt(0, 0), 50);
        Check.equal("risk by weight 1", x.pointAt(1, 0), 1);
        x.day(99_999);
        Check.equal("risk when both are missed", x.pointAt(0, 0) + x.pointAt(1, 0), 102);
        Check.equal("the third finding", x.finding(0, 3, 1_000), 2);
        Check.equal("a day behind the last day is told as it is", x.findingAt(2, 3), 100_999);
    }

    private static void promise8TimeOfTheClassAhead() {
        InspectRows x = withPoints(1);
        x.interval(0, 9, 4);
        x.interval(1, 9, 5);
        x.interval(2, 9, 6);
        x.day(100);
        Check.equal("time of class 0", x.findingAt(x.finding(0, 10, -1), 3), 104);
        Check.equal("time of class 1", x.findingAt(x.finding(0, 1, -1), 3), 105);
        x.day(105);
        Check.equal("time of class 2 by a missed one", x.findingAt(x.finding(0, 1, -1), 3), 111);
        x.interval(2, 9, 1);
        Check.equal("a later time leaves the day", x.findingAt(2, 3), 111);
    }

    private static void promise8Refusals() {
        InspectRows x = withPoints(1);
        checkFindingRefusals(x);
        for (int i = 0; i < 100; i++) {
            Check.equal("finding " + i, x.finding(0, 1, 0), i);
        }
        checkFindingRefusals(x);
        Check.refuses("a finding more than 100", Check.ROOM, () -> x.finding(0, 1, 0));
        x.done(5, 1);
        Check.refuses("done ones keep their room", Check.ROOM, () -> x.finding(0, 1, -1));
        Check.equal("open ones after refusals", x.pointAt(0, 4), 99);
        Check.equal("risk after refusals", x.pointAt(0, 0), 99);
    }

    private static void checkFindingRefusals(InspectRows x) {
        Check.refuses("finding(1, ..)", Check.UNKNOWN, () -> x.finding(1, 1, 1));
        Check.refuses("finding(-1, ..)", Check.UNKNOWN, () -> x.finding(-1, 1, 1));
        Check.refuses("finding(1, 51, ..): unknown first", Check.UNKNOWN, () -> x.finding(1, 51, 1));
        Check.refuses("weight 0", Check.RANGE, () -> x.finding(0, 0, 1));
        Check.refuses("weight 51", Check.RANGE, () -> x.finding(0, 51, 1));
        Check.refuses("days -2", Check.RANGE, () -> x.finding(0, 1, -2));
        Check.refuses("days 1001", Check.RANGE, () -> x.finding(0, 1, 1_001));
    }

    private static void promise9Done() {
        InspectRows x = withPoints(1);
        x.finding(0, 7, 3);
        x.finding(0, 9, 3);
        Check.refuses("done(2, 1)", Check.UNKNOWN, () -> x.done(2, 1));
        Check.refuses("done(-1, 1)", Check.UNKNOWN, () -> x.done(-1, 1));
        Check.refuses("done(2, 0): unknown first", Check.UNKNOWN, () -> x.done(2, 0));
        Check.refuses("done(0, 0)", Check.RANGE, () -> x.done(0, 0));
        Check.refuses("done(0, 10000)", Check.RANGE, () -> x.done(0, 10_000));
        Check.equal("still open after refusals", x.findingAt(0, 1), 1);
        x.done(0, 9_999);
        Check.equal("not open", x.findingAt(0, 1), 0);
        Check.equal("its proof", x.findingAt(0, 4), 9_999);
        Check.equal("risk without it", x.pointAt(0, 0), 9);
        Check.refuses("done again", Check.STATE, () -> x.done(0, 1));
        Check.refuses("done again with proof 0: range first", Check.RANGE, () -> x.done(0, 0));
        Check.equal("the proof stays", x.findingAt(0, 4), 9_999);
        x.day(10);
        x.done(1, 1);
        Check.equal("a missed one done", x.findingAt(1, 2), 0);
        Check.equal("risk without both", x.pointAt(0, 0), 0);
    }

    private static void promise9ProofsAtTheirEnds() {
        InspectRows x = withPoints(1);
        int[] proofs = {1, 2, 9_998, 9_999};
        for (int proof : proofs) {
            int finding = x.finding(0, 1, 0);
            Check.equal("no proof of finding " + finding, x.findingAt(finding, 4), 0);
            for (int wrong : new int[] {0, -1, 10_000, Integer.MIN_VALUE, Integer.MAX_VALUE}) {
                Check.refuses("done(" + finding + ", " + wrong + ")", Check.RANGE, () -> x.done(finding, wrong));
                Check.equal("no proof after " + wrong, x.findingAt(finding, 4), 0);
            }
            x.done(finding, proof);
            Check.equal("the proof " + proof, x.findingAt(finding, 4), proof);
            Check.refuses("done again by " + proof, Check.STATE, () -> x.done(finding, proof));
            Check.refuses("done again by another", Check.STATE, () -> x.done(finding, 5));
            Check.equal("the proof " + proof + " stays", x.findingAt(finding, 4), proof);
        }
    }

    private static void checkFinding(InspectRows x, String when, int finding, int... due) {
        for (int what = 0; what < 5; what++) {
            Check.equal(when + ", findingAt(" + finding + ", " + what + ")", x.findingAt(finding, what), due[what]);
        }
    }

    private static void promise10FindingAt() {
        InspectRows x = withPoints(3);
        x.day(5);
        x.finding(2, 7, 3);
        x.finding(1, 7, 4);
        checkFinding(x, "new", 0, 2, 1, 0, 8, 0);
        checkFinding(x, "new", 1, 1, 1, 0, 9, 0);
        x.day(8);
        checkFinding(x, "on its day", 0, 2, 1, 0, 8, 0);
        x.day(9);
        checkFinding(x, "missed", 0, 2, 1, 1, 8, 0);
        checkFinding(x, "on its day", 1, 1, 1, 0, 9, 0);
        x.done(0, 44);
        checkFinding(x, "missed and done", 0, 2, 0, 0, 8, 44);
        Check.refuses("findingAt(2, 0)", Check.UNKNOWN, () -> x.findingAt(2, 0));
        Check.refuses("findingAt(-1, 0)", Check.UNKNOWN, () -> x.findingAt(-1, 0));
        Check.refuses("findingAt(0, 5)", Check.UNKNOWN, () -> x.findingAt(0, 5));
        Check.refuses("findingAt(0, -1)", Check.UNKNOWN, () -> x.findingAt(0, -1));
    }

    private static void promise13Question() {
        InspectRows x = withPoints(1);
        x.question(0, 1, 15, 50);
        x.question(15, -1, -1, 0);
        Check.equal("no at 0 leads to 15", x.list(0, 0), 1);
        Check.equal("the weight of the finding", x.pointAt(0, 0), 50);
        Check.refuses("question(16, ..)", Check.UNKNOWN, () -> x.question(16, -1, -1, 0));
        Check.refuses("question(-1, ..)", Check.UNKNOWN, () -> x.question(-1, -1, -1, 0));
        Check.refuses("question(16, 0, 0, 51): unknown first", Check.UNKNOWN, () -> x.question(16, 0, 0, 51));
        Check.refuses("yes leads to itself", Check.RANGE, () -> x.question(4, 4, -1, 0));
        Check.refuses("no leads to itself", Check.RANGE, () -> x.question(4, -1, 4, 0));
        Check.refuses("yes leads back", Check.RANGE, () -> x.question(4, 3, -1, 0));
        Check.refuses("no leads back", Check.RANGE, () -> x.question(4, -1, 0, 0));
        Check.refuses("yes leads to 16", Check.RANGE, () -> x.question(15, 16, -1, 0));
        Check.refuses("no leads to 16", Check.RANGE, () -> x.question(4, 5, 16, 0));
        Check.refuses("yes leads to -2", Check.RANGE, () -> x.question(4, -2, -1, 0));
        Check.refuses("no leads to -2", Check.RANGE, () -> x.question(4, -1, -2, 0));
        Check.refuses("weight -1", Check.RANGE, () -> x.question(0, -1, -1, -1));
        Check.refuses("weight 51", Check.RANGE, () -> x.question(0, -1, -1, 51));
        Check.equal("a refused question leaves the one told", x.list(0, 0), 1);
        x.question(0, -1, 15, 0);
        Check.equal("a question told again", x.list(0, 0), 0);
        Check.equal("its yes told again", x.list(0, 1), 0);
        x.question(0, 4, -1, 0);
        Check.refuses("a refused question is not told", Check.STATE, () -> x.list(0, 1));
    }

    private static void promise14List() {
        InspectRows x = withPoints(2);
        Check.refuses("no question is told", Check.STATE, () -> x.list(0, 0));
        Check.refuses("no such point: unknown first", Check.UNKNOWN, () -> x.list(2, 0));
        Check.refuses("list(-1, 0)", Check.UNKNOWN, () -> x.list(-1, 0));
        x.question(1, -1, -1, 8);
        Check.refuses("question 0 is not told", Check.STATE, () -> x.list(0, 0));
        x.question(0, 1, 2, 6);
        Check.refuses("no comes to an untold one", Check.STATE, () -> x.list(0, 0));
        Check.refuses("and makes no finding", Check.UNKNOWN, () -> x.findingAt(0, 0));
        Check.equal("yes does not come to it", x.list(1, 1), 1);
        Check.equal("the finding's point", x.findingAt(0, 0), 1);
        Check.equal("the finding is open", x.findingAt(0, 1), 1);
        Check.equal("the finding's weight", x.pointAt(1, 0), 8);
        Check.equal("yes twice", x.list(1, 3), 0);
        Check.equal("bits above 15 and untouched bits are free", x.list(1, -1), 0);
        Check.equal("a list is no visit", x.pointAt(1, 2), -1);
    }

    private static void promise14ListByAnswers() {
        InspectRows x = withPoints(1);
        for (int q = 0; q < 16; q++) {
            int next = q == 15 ? -1 : q + 1;
            x.question(q, next, next, q + 1);
        }
        Check.equal("yes to all", x.list(0, 0xFFFF), 0);
        Check.equal("no to all", x.list(0, 0), 16);
        Check.equal("the weights of all", x.pointAt(0, 0), 136);
        Check.equal("no at 15 alone", x.list(0, 0x7FFF), 1);
        Check.equal("the weight of 15", x.pointAt(0, 0), 152);
        Check.equal("no at 0 and 8", x.list(0, 0xFEFE), 2);
        x.day(31);
        x.done(17, 1);
        Check.equal("findings are made in the order of the questions", x.pointAt(0, 0), 2 * (152 + 9));
    }

    private static void promise14TimeOfTheClassAhead() {
        InspectRows x = withPoints(1);
        x.interval(0, 9, 4);
        x.interval(1, 9, 5);
        x.interval(2, 9, 6);
        x.question(0, -1, 1, 10);
        x.question(1, -1, -1, 10);
        x.day(50);
        Check.equal("two findings", x.list(0, 0), 2);
        Check.equal("the first by class 0", x.findingAt(0, 3), 54);
        Check.equal("the second by class 0 too", x.findingAt(1, 3), 54);
        Check.equal("one finding more", x.list(0, 2), 1);
        Check.equal("the third by class 2", x.findingAt(2, 3), 56);
    }

    private static void promise14Room() {
        InspectRows x = withPoints(1);
        x.question(0, -1, 1, 3);
        x.question(1, -1, -1, 2);
        for (int i = 0; i < 99; i++) {
            x.finding(0, 1, 0);
        }
        Check.refuses("two more than 99", Check.ROOM, () -> x.list(0, 0));
        Check.equal("a list without room makes none", x.pointAt(0, 4), 99);
        Check.equal("one more than 99", x.list(0, 2), 1);
        Check.equal("a hundred", x.pointAt(0, 0), 102);
        Check.refuses("one more than 100", Check.ROOM, () -> x.list(0, 2));
        Check.equal("none more than 100", x.list(0, 1), 0);
        Check.refuses("no such point without room: unknown first", Check.UNKNOWN, () -> x.list(1, 0));
        x.question(0, 2, 1, 3);
        Check.refuses("yes comes to an untold one", Check.STATE, () -> x.list(0, 1));
        x.question(1, -1, 2, 2);
        Check.refuses("untold and without room: state first", Check.STATE, () -> x.list(0, 0));
    }
}
