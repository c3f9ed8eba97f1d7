/**
 * Inspections of risk points: risks, classes and intervals, who is due, findings, question lists,
 * least walks, permits for events and surprise visits.
 *
 * <p>The methods here only look at what they are given, in the document's order of refusals
 * (unknown, range, state, room); the classes inside hold the rows and trust what they are given.
 */
public final class InspectRows {
    private static final int LAST_DAY = 99_999;
    private static final int LAST_WHAT = 4;

    private static final int KINDS = 5;
    private static final int MAX_KIND_WEIGHT = 100;
    private static final int CLASSES = 4;
    private static final int MAX_STEP = 100_000;
    private static final int MAX_INTERVAL = 4_000;
    private static final int MAX_TIME = 1_000;

    private static final int MAX_POINTS = 30;
    private static final int MAX_HEIGHT = 3_000;
    private static final int HEIGHT_PER_RISK = 30;
    private static final int MAX_PEOPLE = 100_000;
    private static final int PEOPLE_PER_RISK = 100;
    private static final int MAX_METRES = 10_000;
    // Below every day, so that comparing days also puts points without a visit first.
    private static final int NO_VISIT = -1;

    private static final int MAX_FINDINGS = 100;
    private static final int MAX_FINDING_WEIGHT = 50;
    private static final int MAX_FINDING_DAYS = 1_000;
    private static final int TIME_OF_CLASS = -1;
    private static final int MAX_PROOF = 9_999;
    // No proof is 0, so a finding's proof also tells whether it is open.
    private static final int NO_PROOF = 0;

    private static final int QUESTIONS = 16;
    private static final int END = -1;

    private static final int MAX_STOPS = 7;
    private static final int BITS_PER_STOP = 5;
    private static final int STOP_MASK = 31;

    private static final int MAX_PERMITS = 30;
    private static final int MAX_MILLIMETRES = 10_000_000;
    private static final int LAST_MINUTE = 9_999_999;
    private static final int MINUTES_PER_DAY = 1_440;
    private static final int MAX_CROWD = 1_000_000;
    private static final int MAX_SPACE = 10_000_000;
    private static final int MAX_DISTANCE = 1_000_000;
    private static final int NO_CLASH = -1;
    private static final int CLASH_NO_GROUND = -2;
    private static final int CLASH_SPACE = -3;

    private static final int NONE = -1;

    private final Scale scale;
    private final Points points;
    private final Findings findings;
    private final Questions questions;
    private final Route route;
    private final Permits permits;
    private final int[] risks;
    private int today;

    public InspectRows() {
        scale = new Scale();
        points = new Points();
        findings = new Findings();
        questions = new Questions();
        route = new Route();
        permits = new Permits();
        risks = new int[MAX_POINTS];
        today = 0;
    }

    public void weight(int kind, int w) throws IllegalArgumentException, IndexOutOfBoundsException {
        requireKnown(isKind(kind));
        requireRange(isWithin(w, 0, MAX_KIND_WEIGHT));
        scale.kindWeights[kind] = w;
    }

    public void steps(int a, int b, int c) throws IndexOutOfBoundsException {
        requireRange(a >= 0 && a <= b && b <= c && c <= MAX_STEP);
        scale.steps[0] = a;
        scale.steps[1] = b;
        scale.steps[2] = c;
    }

    public void interval(int cls, int days, int time)
            throws IllegalArgumentException, IndexOutOfBoundsException {
        requireKnown(isWithin(cls, 0, CLASSES - 1));
        requireRange(isWithin(days, 1, MAX_INTERVAL) && isWithin(time, 0, MAX_TIME));
        scale.intervals[cls] = days;
        scale.times[cls] = time;
    }

    public int point(int kind, int height, int people, int x, int y)
            throws IllegalArgumentException, IndexOutOfBoundsException, UnsupportedOperationException {
        requireKnown(isKind(kind));
        requireRange(isWithin(height, 0, MAX_HEIGHT) && isWithin(people, 0, MAX_PEOPLE));
        requireRange(isWithin(x, -MAX_METRES, MAX_METRES) && isWithin(y, -MAX_METRES, MAX_METRES));
        requireRoom(points.count < MAX_POINTS);
        return points.add(kind, height / HEIGHT_PER_RISK + people / PEOPLE_PER_RISK, x, y);
    }

    public void day(int d) throws IndexOutOfBoundsException {
        requireRange(isWithin(d, today, LAST_DAY));
        today = d;
    }

    public void visit(int point) throws IllegalArgumentException {
        requireKnown(isPoint(point));
        points.visits[point] = today;
    }

    public int finding(int point, int weight, int days)
            throws IllegalArgumentException, IndexOutOfBoundsException, UnsupportedOperationException {
        requireKnown(isPoint(point));
        requireRange(isWithin(weight, 1, MAX_FINDING_WEIGHT));
        requireRange(days == TIME_OF_CLASS || isWithin(days, 0, MAX_FINDING_DAYS));
        requireRoom(findings.count < MAX_FINDINGS);
        int time = days == TIME_OF_CLASS ? scale.times[classOf(point)] : days;
        return findings.add(point, weight, today + time);
    }

    public void done(int finding, int proof)
            throws IllegalArgumentException, IndexOutOfBoundsException, IllegalStateException {
        requireKnown(isFinding(finding));
        requireRange(isWithin(proof, 1, MAX_PROOF));
        requireState(findings.isOpen(finding));
        findings.proofs[finding] = proof;
    }

    public int findingAt(int finding, int what) throws IllegalArgumentException {
        requireKnown(isFinding(finding) && isWithin(what, 0, LAST_WHAT));
        switch (what) {
            case 0:
                return findings.points[finding];
            case 1:
                return findings.isOpen(finding) ? 1 : 0;
            case 2:
                return findings.isMissed(finding, today) ? 1 : 0;
            case 3:
                return findings.days[finding];
            default:
                return findings.proofs[finding];
        }
    }

    public int pointAt(int point, int what) throws IllegalArgumentException {
        requireKnown(isPoint(point) && isWithin(what, 0, LAST_WHAT));
        switch (what) {
            case 0:
                return riskOf(point);
            case 1:
                return classOf(point);
            case 2:
                return points.visits[point];
            case 3:
                fillRisks();
                return firstDueDay(point);
            default:
                return findings.countOpen(point);
        }
    }

    public int due(int day, int i) throws IndexOutOfBoundsException {
        requireRange(isWithin(day, today, LAST_DAY) && i >= 0);
        fillRisks();
        for (int point = 0; point < points.count; point++) {
            if (firstDueDay(point) <= day && countDueAhead(point, day) == i) {
                return point;
            }
        }
        return NONE;
    }

    public void question(int q, int yes, int no, int weight)
            throws IllegalArgumentException, IndexOutOfBoundsException {
        requireKnown(isWithin(q, 0, QUESTIONS - 1));
        requireRange(canLead(q, yes) && canLead(q, no));
        requireRange(isWithin(weight, 0, MAX_FINDING_WEIGHT));
        questions.tell(q, yes, no, weight);
    }

    public int list(int point, int answers)
            throws IllegalArgumentException, IllegalStateException, UnsupportedOperationException {
        requireKnown(isPoint(point));
        requireState(questions.answer(answers));
        requireRoom(findings.count + questions.foundCount <= MAX_FINDINGS);
        int lastDay = today + scale.times[classOf(point)];
        for (int i = 0; i < questions.foundCount; i++) {
            findings.add(point, questions.found[i], lastDay);
        }
        return questions.foundCount;
    }

    public int walk(long points, int n) throws IllegalArgumentException, IndexOutOfBoundsException {
        requireKnown(areAllPoints(points, Math.min(n, MAX_STOPS)));
        requireRange(isWithin(n, 0, MAX_STOPS));
        requireRange(areAllDifferent(points, n));
        for (int i = 0; i < n; i++) {
            int point = toldPoint(points, i);
            route.tell(i, point, this.points.xs[point], this.points.ys[point]);
        }
        return route.findLeast(n);
    }

    public int stop(int i) throws IndexOutOfBoundsException {
        requireRange(i >= 0);
        return i < route.count ? route.stops[i] : NONE;
    }

    public void rules(int space, int distance) throws IndexOutOfBoundsException {
        requireRange(isWithin(space, 0, MAX_SPACE) && isWithin(distance, 0, MAX_DISTANCE));
        permits.space = space;
        permits.distance = distance;
    }

    public int permit(int from, int to, int crowd)
            throws IndexOutOfBoundsException, IllegalStateException, UnsupportedOperationException {
        requireRange(from >= 0 && from < to && to <= LAST_MINUTE);
        requireRange(isWithin(crowd, 1, MAX_CROWD));
        permits.clash = permits.findClash(from, to, crowd);
        requireState(permits.clash == NO_CLASH);
        requireRoom(permits.count < MAX_PERMITS);
        return permits.add(from, to);
    }

    public void ground(int x1, int y1, int x2, int y2) throws IndexOutOfBoundsException {
        requireRange(isSide(x1, x2) && isSide(y1, y2));
        permits.tellGround(x1, y1, x2, y2);
    }

    public int clash() {
        return permits.clash;
    }

    public int touches(int permit) throws IllegalArgumentException {
        requireKnown(permit >= 0 && permit < permits.count);
        int firstDay = permits.froms[permit] / MINUTES_PER_DAY;
        int lastDay = (permits.tos[permit] - 1) / MINUTES_PER_DAY;
        return lastDay - firstDay + 1;
    }

    public int surprise(int seed) throws IllegalStateException {
        requireState(points.count > 0);
        int x = seed * 1_103_515_245 + 12_345;
        return (x >>> 8) % points.count;
    }

    private static void requireKnown(boolean known) {
        if (!known) {
            throw new IllegalArgumentException("there is none such");
        }
    }

    private static void requireRange(boolean inRange) {
        if (!inRange) {
            throw new IndexOutOfBoundsException("a number is outside its range");
        }
    }

    private static void requireState(boolean inState) {
        if (!inState) {
            throw new IllegalStateException("not in this state");
        }
    }

    private static void requireRoom(boolean hasRoom) {
        if (!hasRoom) {
            throw new UnsupportedOperationException("there is no room");
        }
    }

    private static boolean isWithin(int value, int lowest, int highest) {
        return value >= lowest && value <= highest;
    }

    private static boolean isKind(int kind) {
        return isWithin(kind, 0, KINDS - 1);
    }

    private boolean isPoint(int point) {
        return point >= 0 && point < points.count;
    }

    private boolean isFinding(int finding) {
        return finding >= 0 && finding < findings.count;
    }

    private static boolean isSide(int low, int high) {
        return low >= -MAX_MILLIMETRES && low < high && high <= MAX_MILLIMETRES;
    }

    // Leading only to higher numbers is what makes every list end.
    private static boolean canLead(int q, int next) {
        return next == END || isWithin(next, q + 1, QUESTIONS - 1);
    }

    private static int toldPoint(long told, int i) {
        return (int) (told >>> (BITS_PER_STOP * i)) & STOP_MASK;
    }

    private boolean areAllPoints(long told, int n) {
        for (int i = 0; i < n; i++) {
            if (!isPoint(toldPoint(told, i))) {
                return false;
            }
        }
        return true;
    }

    private static boolean areAllDifferent(long told, int n) {
        int seen = 0;
        for (int i = 0; i < n; i++) {
            int bit = 1 << toldPoint(told, i);
            if ((seen & bit) != 0) {
                return false;
            }
            seen |= bit;
        }
        return true;
    }

    // All risks in one pass over the findings: asking point by point would pass over them 30 times.
    private void fillRisks() {
        for (int point = 0; point < points.count; point++) {
            risks[point] = scale.kindWeights[points.kinds[point]] + points.ownRisks[point];
        }
        for (int finding = 0; finding < findings.count; finding++) {
            risks[findings.points[finding]] += findings.riskOn(finding, today);
        }
    }

    private int riskOf(int point) {
        fillRisks();
        return risks[point];
    }

    private int classOf(int point) {
        return scale.classFor(riskOf(point));
    }

    // firstDueDay, countDueAhead and isAhead read the row of risks: fillRisks() comes before them.
    private int firstDueDay(int point) {
        int visit = points.visits[point];
        return visit == NO_VISIT ? 0 : visit + scale.intervals[scale.classFor(risks[point])];
    }

    private int countDueAhead(int point, int day) {
        int ahead = 0;
        for (int other = 0; other < points.count; other++) {
            if (isAhead(other, point) && firstDueDay(other) <= day) {
                ahead++;
            }
        }
        return ahead;
    }

    private boolean isAhead(int point, int other) {
        if (risks[point] != risks[other]) {
            return risks[point] > risks[other];
        }
        if (points.visits[point] != points.visits[other]) {
            return points.visits[point] < points.visits[other];
        }
        return point < other;
    }

    /** What makes a class of a risk, and days of a class. */
    private static final class Scale {
        private final int[] kindWeights;
        private final int[] steps;
        private final int[] intervals;
        private final int[] times;

        Scale() {
            kindWeights = new int[KINDS];
            steps = new int[] {10, 20, 30};
            intervals = new int[] {1_000, 500, 200, 100};
            times = new int[] {30, 30, 30, 30};
        }

        int classFor(int risk) {
            int reached = 0;
            for (int i = 0; i < steps.length; i++) {
                if (steps[i] <= risk) {
                    reached++;
                }
            }
            return reached;
        }
    }

    /** The points. A point's own risk is its share that never changes: of its height and people. */
    private static final class Points {
        private final int[] kinds;
        private final int[] ownRisks;
        private final int[] xs;
        private final int[] ys;
        private final int[] visits;
        private int count;

        Points() {
            kinds = new int[MAX_POINTS];
            ownRisks = new int[MAX_POINTS];
            xs = new int[MAX_POINTS];
            ys = new int[MAX_POINTS];
            visits = new int[MAX_POINTS];
            count = 0;
        }

        int add(int kind, int ownRisk, int x, int y) {
            int added = count;
            kinds[added] = kind;
            ownRisks[added] = ownRisk;
            xs[added] = x;
            ys[added] = y;
            visits[added] = NO_VISIT;
            count++;
            return added;
        }
    }

    /** The findings, open and done. */
    private static final class Findings {
        private final int[] points;
        private final int[] weights;
        private final int[] days;
        private final int[] proofs;
        private int count;

        Findings() {
            points = new int[MAX_FINDINGS];
            weights = new int[MAX_FINDINGS];
            days = new int[MAX_FINDINGS];
            proofs = new int[MAX_FINDINGS];
            count = 0;
        }

        int add(int point, int weight, int lastDay) {
            int added = count;
            points[added] = point;
            weights[added] = weight;
            days[added] = lastDay;
            proofs[added] = NO_PROOF;
            count++;
            return added;
        }

        boolean isOpen(int finding) {
            return proofs[finding] == NO_PROOF;
        }

        boolean isMissed(int finding, int today) {
            return isOpen(finding) && days[finding] < today;
        }

        int riskOn(int finding, int today) {
            if (!isOpen(finding)) {
                return 0;
            }
            return isMissed(finding, today) ? 2 * weights[finding] : weights[finding];
        }

        int countOpen(int point) {
            int open = 0;
            for (int finding = 0; finding < count; finding++) {
                if (points[finding] == point && isOpen(finding)) {
                    open++;
                }
            }
            return open;
        }
    }

    /** The questions, and the weights that the latest answers found. */
    private static final class Questions {
        private final boolean[] told;
        private final int[] afterYes;
        private final int[] afterNo;
        private final int[] weights;
        private final int[] found;
        private int foundCount;

        Questions() {
            told = new boolean[QUESTIONS];
            afterYes = new int[QUESTIONS];
            afterNo = new int[QUESTIONS];
            weights = new int[QUESTIONS];
            found = new int[QUESTIONS];
            foundCount = 0;
        }

        void tell(int q, int yes, int no, int weight) {
            told[q] = true;
            afterYes[q] = yes;
            afterNo[q] = no;
            weights[q] = weight;
        }

        /** Whether the list can be gone; only then is what it found of use. */
        boolean answer(int answers) {
            foundCount = 0;
            int next = 0;
            for (int gone = 0; gone < QUESTIONS && next != END; gone++) {
                int q = next;
                if (!told[q]) {
                    return false;
                }
                boolean yes = ((answers >>> q) & 1) == 1;
                if (!yes && weights[q] > 0) {
                    found[foundCount] = weights[q];
                    foundCount++;
                }
                next = yes ? afterYes[q] : afterNo[q];
            }
            return true;
        }
    }

    /**
     * The walk. Places are numbered as they were told, with home behind the last one; least metres
     * are kept by the set of places gone to and the place of now, so that no order is tried twice.
     */
    private static final class Route {
        private static final int PLACES = MAX_STOPS + 1;

        private final int[] told;
        private final int[] xs;
        private final int[] ys;
        private final int[] legs;
        private final int[] leastHome;
        private final int[] stops;
        private int count;

        Route() {
            told = new int[MAX_STOPS];
            xs = new int[PLACES];
            ys = new int[PLACES];
            legs = new int[PLACES * PLACES];
            leastHome = new int[(1 << MAX_STOPS) * PLACES];
            stops = new int[MAX_STOPS];
            count = 0;
        }

        void tell(int place, int point, int x, int y) {
            told[place] = point;
            xs[place] = x;
            ys[place] = y;
        }

        int findLeast(int n) {
            xs[n] = 0;
            ys[n] = 0;
            count = n;
            fillLegs();
            fillLeastHome();
            fillStops();
            return leastHome[count];
        }

        private void fillLegs() {
            for (int a = 0; a <= count; a++) {
                for (int b = 0; b <= count; b++) {
                    legs[a * PLACES + b] = Math.abs(xs[a] - xs[b]) + Math.abs(ys[a] - ys[b]);
                }
            }
        }

        // Greater sets first: what is left to go from a set leans on the sets with one place more.
        private void fillLeastHome() {
            int all = (1 << count) - 1;
            for (int place = 0; place <= count; place++) {
                leastHome[all * PLACES + place] = legs[place * PLACES + count];
            }
            for (int gone = all - 1; gone >= 0; gone--) {
                for (int place = 0; place <= count; place++) {
                    int next = firstLeastNext(gone, place);
                    leastHome[gone * PLACES + place] = metresBy(gone, place, next);
                }
            }
        }

        // Taking the first of the least places each time gives the first of the least orders.
        private void fillStops() {
            int gone = 0;
            int place = count;
            for (int i = 0; i < count; i++) {
                place = firstLeastNext(gone, place);
                gone |= 1 << place;
                stops[i] = told[place];
            }
        }

        private int firstLeastNext(int gone, int place) {
            int best = count;
            int bestMetres = Integer.MAX_VALUE;
            for (int next = 0; next < count; next++) {
                if ((gone & (1 << next)) == 0) {
                    int metres = metresBy(gone, place, next);
                    if (metres < bestMetres) {
                        best = next;
                        bestMetres = metres;
                    }
                }
            }
            return best;
        }

        private int metresBy(int gone, int place, int next) {
            int then = gone | (1 << next);
            return legs[place * PLACES + next] + leastHome[then * PLACES + next];
        }
    }

    /** The permits, the ground told for the next ones, and the rules for them. */
    private static final class Permits {
        private final int[] x1s;
        private final int[] y1s;
        private final int[] x2s;
        private final int[] y2s;
        private final int[] froms;
        private final int[] tos;
        private int count;
        private boolean groundTold;
        private int groundX1;
        private int groundY1;
        private int groundX2;
        private int groundY2;
        private int space;
        private int distance;
        private int clash;

        Permits() {
            x1s = new int[MAX_PERMITS];
            y1s = new int[MAX_PERMITS];
            x2s = new int[MAX_PERMITS];
            y2s = new int[MAX_PERMITS];
            froms = new int[MAX_PERMITS];
            tos = new int[MAX_PERMITS];
            count = 0;
            groundTold = false;
            space = 500_000;
            distance = 5_000;
            clash = NO_CLASH;
        }

        void tellGround(int x1, int y1, int x2, int y2) {
            groundTold = true;
            groundX1 = x1;
            groundY1 = y1;
            groundX2 = x2;
            groundY2 = y2;
        }

        int add(int from, int to) {
            int added = count;
            x1s[added] = groundX1;
            y1s[added] = groundY1;
            x2s[added] = groundX2;
            y2s[added] = groundY2;
            froms[added] = from;
            tos[added] = to;
            count++;
            return added;
        }

        int findClash(int from, int to, int crowd) {
            if (!groundTold) {
                return CLASH_NO_GROUND;
            }
            if (groundArea() < (long) crowd * space) {
                return CLASH_SPACE;
            }
            for (int permit = 0; permit < count; permit++) {
                boolean sharesMinute = from < tos[permit] && froms[permit] < to;
                if (sharesMinute && isTooNear(permit)) {
                    return permit;
                }
            }
            return NO_CLASH;
        }

        private long groundArea() {
            return (long) (groundX2 - groundX1) * (groundY2 - groundY1);
        }

        private boolean isTooNear(int permit) {
            long dx = gap(groundX1, groundX2, x1s[permit], x2s[permit]);
            long dy = gap(groundY1, groundY2, y1s[permit], y2s[permit]);
            return dx * dx + dy * dy < (long) distance * distance;
        }

        private static long gap(int low, int high, int otherLow, int otherHigh) {
            return Math.max(0, Math.max(otherLow - high, low - otherHigh));
        }
    }
}
