/** Objects in known states: nothing told, a little of everything, no room for more. */
enum Scene {
    FRESH(0, 0, 0, 0),
    BUSY(50, 5, 4, 2),
    FULL(50, 30, 100, 30);

    final int today;
    final int points;
    final int findings;
    final int permits;

    Scene(int today, int points, int findings, int permits) {
        this.today = today;
        this.points = points;
        this.findings = findings;
        this.permits = permits;
    }

    InspectRows make() {
        InspectRows x = new InspectRows();
        if (this == BUSY) {
            makeBusy(x);
        } else if (this == FULL) {
            makeFull(x);
        }
        return x;
    }

    int pointOf(int finding) {
        return this == BUSY ? new int[] {0, 1, 2, 0}[finding] : finding % 30;
    }

    /** Finding 0 of point 0 is missed, finding 1 done; question 2 is not told; permit 1 was too near. */
    private static void makeBusy(InspectRows x) {
        x.weight(0, 3);
        x.weight(1, 12);
        x.weight(4, 100);
        x.steps(17, 29, 42);
        x.interval(0, 900, 11);
        x.interval(1, 400, 12);
        x.interval(2, 150, 13);
        x.interval(3, 60, 14);
        x.point(0, 0, 0, 3, 4);
        x.point(1, 300, 250, -5, 0);
        x.point(2, 59, 99, 10, -2);
        x.point(3, 3_000, 100_000, 10_000, -10_000);
        x.point(4, 30, 100, 0, 0);
        x.visit(0);
        x.visit(3);
        x.day(40);
        x.visit(1);
        x.finding(0, 5, 2);
        x.finding(1, 9, -1);
        x.finding(2, 50, 1_000);
        x.finding(0, 1, 10);
        x.day(50);
        x.done(1, 77);
        x.question(0, 1, 3, 4);
        x.question(1, 2, -1, 6);
        x.question(3, -1, 15, 0);
        x.question(15, -1, -1, 50);
        x.walk(2L | 1L << 5 | 0L << 10, 3);
        x.rules(1_000_000, 2_000);
        x.ground(0, 0, 10_000, 10_000);
        x.permit(100, 2_000, 7);
        x.ground(20_000, 0, 30_000, 10_000);
        x.permit(100, 3_000, 100);
        x.ground(17_500, 0, 19_000, 8_000);
        Calls.outcome(x, "permit", 50, 120, 12);
    }

    /** The findings of point 0 are all done; question 0 finds nothing; all permits are on one ground. */
    private static void makeFull(InspectRows x) {
        x.weight(2, 40);
        x.steps(5, 50, 95);
        for (int point = 0; point < 30; point++) {
            x.point(point % 5, point * 100, point * 1_000, point, -point);
        }
        for (int finding = 0; finding < 100; finding++) {
            x.finding(finding % 30, 1 + finding % 50, finding);
        }
        for (int finding = 0; finding < 100; finding += 3) {
            x.done(finding, 1 + finding);
        }
        x.day(50);
        for (int point = 1; point < 30; point += 2) {
            x.visit(point);
        }
        for (int q = 0; q < 16; q++) {
            int next = q == 15 ? -1 : q + 1;
            x.question(q, next, next, q);
        }
        x.walk(29L | 28L << 5 | 1L << 10 | 2L << 15 | 3L << 20 | 4L << 25 | 27L << 30, 7);
        x.ground(0, 0, 10_000, 10_000);
        for (int permit = 0; permit < 30; permit++) {
            x.permit(permit * 1_000, permit * 1_000 + 1_000, 1 + permit);
        }
        Calls.outcome(x, "permit", 29_500, 30_500, 1);
    }
}
