import java.util.ArrayList;
import java.util.Comparator;
import java.util.HashMap;
import java.util.HashSet;
import java.util.List;
import java.util.Map;
import java.util.Set;

/** The document once more, as plainly as can be, with the whole Java library: for comparison only. */
final class PlainModel {
    private record Finding(int point, int weight, int day) {
    }

    private record Question(int yes, int no, int weight) {
    }

    private record Ground(int x1, int y1, int x2, int y2) {
    }

    private record Permit(Ground ground, int from, int to) {
    }

    private record Point(int kind, int height, int people, int x, int y) {
    }

    private final int[] weights = new int[5];
    private int[] steps = {10, 20, 30};
    private final int[] intervals = {1000, 500, 200, 100};
    private final int[] times = {30, 30, 30, 30};
    private final List<Point> points = new ArrayList<>();
    private final Map<Integer, Integer> visits = new HashMap<>();
    private final List<Finding> findings = new ArrayList<>();
    private final Map<Integer, Integer> proofs = new HashMap<>();
    private final Map<Integer, Question> questions = new HashMap<>();
    private List<Integer> stops = new ArrayList<>();
    private final List<Permit> permits = new ArrayList<>();
    private Ground ground = null;
    private long space = 500000;
    private long distance = 5000;
    private int clash = -1;
    private int today = 0;

    private static void unknownIf(boolean refused) {
        if (refused) {
            throw new IllegalArgumentException();
        }
    }

    private static void rangeIf(boolean refused) {
        if (refused) {
            throw new IndexOutOfBoundsException();
        }
    }

    private static void stateIf(boolean refused) {
        if (refused) {
            throw new IllegalStateException();
        }
    }

    private static void roomIf(boolean refused) {
        if (refused) {
            throw new UnsupportedOperationException();
        }
    }

    void weight(int kind, int w) {
        unknownIf(kind < 0 || kind > 4);
        rangeIf(w < 0 || w > 100);
        weights[kind] = w;
    }

    void steps(int a, int b, int c) {
        rangeIf(a < 0 || b < 0 || c < 0 || a > 100000 || b > 100000 || c > 100000);
        rangeIf(b < a || c < b);
        steps = new int[] {a, b, c};
    }

    void interval(int cls, int days, int time) {
        unknownIf(cls < 0 || cls > 3);
        rangeIf(days < 1 || days > 4000 || time < 0 || time > 1000);
        intervals[cls] = days;
        times[cls] = time;
    }

    int point(int kind, int height, int people, int x, int y) {
        unknownIf(kind < 0 || kind > 4);
        rangeIf(height < 0 || height > 3000 || people < 0 || people > 100000);
        rangeIf(x < -10000 || x > 10000 || y < -10000 || y > 10000);
        roomIf(points.size() == 30);
        points.add(new Point(kind, height, people, x, y));
        return points.size() - 1;
    }

    void day(int d) {
        rangeIf(d < today || d > 99999);
        today = d;
    }

    void visit(int point) {
        unknownIf(point < 0 || point >= points.size());
        visits.put(point, today);
    }

    int finding(int point, int weight, int days) {
        unknownIf(point < 0 || point >= points.size());
        rangeIf(weight < 1 || weight > 50 || days < -1 || days > 1000);
        roomIf(findings.size() == 100);
        findings.add(new Finding(point, weight, today + (days == -1 ? times[classOf(point)] : days)));
        return findings.size() - 1;
    }

    void done(int finding, int proof) {
        unknownIf(finding < 0 || finding >= findings.size());
        rangeIf(proof < 1 || proof > 9999);
        stateIf(proofs.containsKey(finding));
        proofs.put(finding, proof);
    }

    int findingAt(int finding, int what) {
        unknownIf(finding < 0 || finding >= findings.size() || what < 0 || what > 4);
        Finding it = findings.get(finding);
        boolean open = !proofs.containsKey(finding);
        boolean missed = open && today > it.day();
        int[] told = {it.point(), open ? 1 : 0, missed ? 1 : 0, it.day(), proofs.getOrDefault(finding, 0)};
        return told[what];
    }

    private int riskOf(int point) {
        Point it = points.get(point);
        int risk = weights[it.kind()] + it.height() / 30 + it.people() / 100;
        for (int f = 0; f < findings.size(); f++) {
            if (findings.get(f).point() == point && !proofs.containsKey(f)) {
                risk += findings.get(f).weight();
                risk += today > findings.get(f).day() ? findings.get(f).weight() : 0;
            }
        }
        return risk;
    }

    private int classOf(int point) {
        int risk = riskOf(point);
        return risk < steps[0] ? 0 : risk < steps[1] ? 1 : risk < steps[2] ? 2 : 3;
    }

    private int openOf(int point) {
        int open = 0;
        for (int f = 0; f < findings.size(); f++) {
            open += findings.get(f).point() == point && !proofs.containsKey(f) ? 1 : 0;
        }
        return open;
    }

    int pointAt(int point, int what) {
        unknownIf(point < 0 || point >= points.size() || what < 0 || what > 4);
        boolean visited = visits.containsKey(point);
        int firstDue = visited ? visits.get(point) + intervals[classOf(point)] : 0;
        int[] told = {riskOf(point), classOf(point), visits.getOrDefault(point, -1), firstDue, openOf(point)};
        return told[what];
    }

    int due(int day, int i) {
        rangeIf(day < today || day > 99999 || i < 0);
        List<Integer> all = new ArrayList<>();
        for (int p = 0; p < points.size(); p++) {
            if (!visits.containsKey(p) || day - visits.get(p) >= intervals[classOf(p)]) {
                all.add(p);
            }
        }
        all.sort(Comparator.<Integer>comparingInt(p -> -riskOf(p))
            .thenComparing(p -> visits.containsKey(p))
            .thenComparingInt(p -> visits.getOrDefault(p, 0))
            .thenComparingInt(p -> p));
        return i < all.size() ? all.get(i) : -1;
    }

    void question(int q, int yes, int no, int weight) {
        unknownIf(q < 0 || q > 15);
        rangeIf(yes != -1 && (yes <= q || yes > 15));
        rangeIf(no != -1 && (no <= q || no > 15));
        rangeIf(weight < 0 || weight > 50);
        questions.put(q, new Question(yes, no, weight));
    }

    int list(int point, int answers) {
        unknownIf(point < 0 || point >= points.size());
        List<Integer> found = new ArrayList<>();
        int q = 0;
        while (q != -1) {
            stateIf(!questions.containsKey(q));
            Question it = questions.get(q);
            boolean yes = (answers & (1 << q)) != 0;
            if (!yes && it.weight() != 0) {
                found.add(it.weight());
            }
            q = yes ? it.yes() : it.no();
        }
        roomIf(findings.size() + found.size() > 100);
        int time = times[classOf(point)];
        for (int weight : found) {
            findings.add(new Finding(point, weight, today + time));
        }
        return found.size();
    }

    int walk(long told, int n) {
        List<Integer> goals = new ArrayList<>();
        for (int i = 0; i < n && i < 7; i++) {
            goals.add((int) Math.floorMod(Math.floorDiv(told, 1L << (5 * i)), 32L));
        }
        for (int goal : goals) {
            unknownIf(goal >= points.size());
        }
        rangeIf(n < 0 || n > 7);
        Set<Integer> once = new HashSet<>(goals);
        rangeIf(once.size() != n);
        List<Integer> best = new ArrayList<>(goals);
        leastOrder(goals, new ArrayList<>(), best);
        stops = best;
        return metresOf(best);
    }

    /** All orders, the first ones first; a later one only takes over when it is less. */
    private void leastOrder(List<Integer> goals, List<Integer> gone, List<Integer> best) {
        if (gone.size() == goals.size()) {
            if (metresOf(gone) < metresOf(best)) {
                best.clear();
                best.addAll(gone);
            }
            return;
        }
        for (int goal : goals) {
            if (!gone.contains(goal)) {
                gone.add(goal);
                leastOrder(goals, gone, best);
                gone.remove(gone.size() - 1);
            }
        }
    }

    private int metresOf(List<Integer> order) {
        int metres = 0;
        int x = 0;
        int y = 0;
        for (int p : order) {
            metres += Math.abs(points.get(p).x() - x) + Math.abs(points.get(p).y() - y);
            x = points.get(p).x();
            y = points.get(p).y();
        }
        return metres + Math.abs(x) + Math.abs(y);
    }

    int stop(int i) {
        rangeIf(i < 0);
        return i < stops.size() ? stops.get(i) : -1;
    }

    void rules(int newSpace, int newDistance) {
        rangeIf(newSpace < 0 || newSpace > 10000000 || newDistance < 0 || newDistance > 1000000);
        space = newSpace;
        distance = newDistance;
    }

    int permit(int from, int to, int crowd) {
        rangeIf(from < 0 || from > 9999999 || to < 0 || to > 9999999 || to <= from);
        rangeIf(crowd < 1 || crowd > 1000000);
        clash = reasonAgainst(from, to, crowd);
        stateIf(clash != -1);
        roomIf(permits.size() == 30);
        permits.add(new Permit(ground, from, to));
        return permits.size() - 1;
    }

    private int reasonAgainst(int from, int to, int crowd) {
        if (ground == null) {
            return -2;
        }
        long area = ((long) ground.x2() - ground.x1()) * ((long) ground.y2() - ground.y1());
        if (crowd * space > area) {
            return -3;
        }
        for (int p = 0; p < permits.size(); p++) {
            Permit it = permits.get(p);
            boolean common = Math.max(from, it.from()) < Math.min(to, it.to());
            if (common && squareBetween(ground, it.ground()) < distance * distance) {
                return p;
            }
        }
        return -1;
    }

    private static long squareBetween(Ground a, Ground b) {
        long dx = a.x2() < b.x1() ? b.x1() - a.x2() : b.x2() < a.x1() ? a.x1() - b.x2() : 0;
        long dy = a.y2() < b.y1() ? b.y1() - a.y2() : b.y2() < a.y1() ? a.y1() - b.y2() : 0;
        return dx * dx + dy * dy;
    }

    void ground(int x1, int y1, int x2, int y2) {
        for (int edge : new int[] {x1, y1, x2, y2}) {
            rangeIf(edge < -10000000 || edge > 10000000);
        }
        rangeIf(x1 >= x2 || y1 >= y2);
        ground = new Ground(x1, y1, x2, y2);
    }

    int clash() {
        return clash;
    }

    int touches(int permit) {
        unknownIf(permit < 0 || permit >= permits.size());
        Permit it = permits.get(permit);
        int days = 0;
        for (int d = 0; d <= 9999999 / 1440; d++) {
            days += it.from() < (d + 1) * 1440 && it.to() > d * 1440 ? 1 : 0;
        }
        return days;
    }

    int surprise(int seed) {
        stateIf(points.isEmpty());
        long x = Math.floorMod(seed * 1103515245L + 12345L, 1L << 32);
        return (int) ((x / 256) % points.size());
    }
}
