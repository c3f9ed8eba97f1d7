import java.util.ArrayList;
import java.util.List;
import java.util.Random;
import java.util.function.IntSupplier;

/**
 * Runs of 512 random calls, compared with the plain model. After each refusal, and now and then, the
 * whole state that can be asked for is compared, so that what is refused is seen to change nothing.
 */
public final class RandomRunsTest {
    private static final int RUNS = 400;
    private static final int CALLS = 512;
    private static final int EDGES_IN_100 = 6;
    private static final String[] NAMES = {
        "weight", "steps", "interval", "point", "day", "visit", "finding", "done", "findingAt", "pointAt",
        "due", "question", "list", "walk", "stop", "rules", "permit", "ground", "clash", "touches", "surprise",
    };

    private final Random random;
    private final InspectRows rows = new InspectRows();
    private final PlainModel model = new PlainModel();
    private final List<String> calls = new ArrayList<>();
    private final int[] liking = new int[NAMES.length];
    private int todayAtMost = 0;

    private RandomRunsTest(int seed) {
        random = new Random(seed);
        for (int i = 0; i < liking.length; i++) {
            liking[i] = 1 + random.nextInt(8);
        }
    }

    public static void main(String[] args) {
        for (int run = 0; run < RUNS && Check.wrongSoFar() == 0; run++) {
            new RandomRunsTest(run).run();
        }
        Check.finish();
    }

    private void run() {
        for (int i = 0; i < CALLS; i++) {
            String name = pick();
            long[] args = argumentsOf(name);
            if (!same(name, args)) {
                System.out.println("the run: " + String.join(" ", calls));
                return;
            }
            if (i % 16 == 0 && !sameState()) {
                System.out.println("the run, with the state unlike: " + String.join(" ", calls));
                return;
            }
        }
    }

    private String pick() {
        int all = 0;
        for (int one : liking) {
            all += one;
        }
        int left = random.nextInt(all);
        for (int i = 0; i < NAMES.length; i++) {
            left -= liking[i];
            if (left < 0) {
                return NAMES[i];
            }
        }
        return NAMES[0];
    }

    private boolean same(String name, long[] args) {
        StringBuilder text = new StringBuilder(name);
        for (int i = 0; i < args.length; i++) {
            text.append(i == 0 ? "(" : ", ").append(args[i]);
        }
        text.append(args.length == 0 ? "()" : ")");
        String got = Check.outcome(onRows(name, args));
        String due = Check.outcome(onModel(name, args));
        calls.add(text + "=" + got);
        Check.isTrue(text + " answered " + got + ", due is " + due, got.equals(due));
        if (!got.equals(due)) {
            return false;
        }
        return !got.startsWith("throws.") || random.nextInt(4) != 0 || sameState();
    }

    private boolean sameState() {
        for (int what = 0; what < 5; what++) {
            for (int point = 0; point < 30; point++) {
                if (!sameAsked("pointAt", point, what)) {
                    return false;
                }
            }
            for (int finding = 0; finding < 100; finding++) {
                if (!sameAsked("findingAt", finding, what)) {
                    return false;
                }
            }
        }
        for (int i = 0; i < 8; i++) {
            if (!sameAsked("stop", i) || !sameAsked("due", todayAtMost, i)) {
                return false;
            }
        }
        for (int permit = 0; permit < 30; permit++) {
            if (!sameAsked("touches", permit)) {
                return false;
            }
        }
        return sameAsked("clash") && sameAsked("surprise", 1);
    }

    private boolean sameAsked(String name, long... args) {
        String got = Check.outcome(onRows(name, args));
        String due = Check.outcome(onModel(name, args));
        if (!got.equals(due)) {
            Check.isTrue("then " + name + java.util.Arrays.toString(args) + " answered " + got + ", due is " + due, false);
        }
        return got.equals(due);
    }

    /** Mostly within low .. high, at times on an edge, just outside, or far outside. */
    private int some(int low, int high) {
        if (random.nextInt(100) >= EDGES_IN_100) {
            return low + (int) (random.nextDouble() * ((double) high - low + 1));
        }
        int[] edges = {low, high, low - 1, high + 1, low, high, Integer.MIN_VALUE, Integer.MAX_VALUE, 0, -1, -2};
        return edges[random.nextInt(edges.length)];
    }

    private int small(int low, int high, int mostly) {
        return random.nextInt(4) == 0 ? some(low, high) : some(low, Math.min(high, mostly));
    }

    private long[] argumentsOf(String name) {
        switch (name) {
            case "weight":
                return new long[] {some(0, 4), small(0, 100, 12)};
            case "steps":
                int a = small(0, 100_000, 20);
                return new long[] {a, a + random.nextInt(20), a + small(0, 60, 30)};
            case "interval":
                return new long[] {some(0, 3), small(1, 4_000, 40), small(0, 1_000, 20)};
            case "point":
                return new long[] {some(0, 4), small(0, 3_000, 200), small(0, 100_000, 900), place(), place()};
            case "day":
                return new long[] {nextDay()};
            case "visit":
                return new long[] {some(0, 12)};
            case "finding":
                return new long[] {some(0, 12), small(1, 50, 8), random.nextInt(3) == 0 ? -1 : small(0, 1_000, 20)};
            case "done":
                return new long[] {small(0, 99, 20), some(1, 9_999)};
            case "findingAt":
                return new long[] {some(0, 99), some(0, 4)};
            case "pointAt":
                return new long[] {some(0, 29), some(0, 4)};
            case "due":
                return new long[] {Math.min(99_999L, todayAtMost + (long) small(0, 5_000, 50)), some(0, 12)};
            case "question":
                int q = some(0, 15);
                return new long[] {q, next(q), next(q), random.nextInt(3) == 0 ? 0 : some(0, 50)};
            case "list":
                return new long[] {some(0, 12), random.nextInt()};
            case "walk":
                return new long[] {told(), some(0, 7)};
            case "stop":
                return new long[] {some(0, 7)};
            case "rules":
                return new long[] {small(0, 10_000_000, 1_000), small(0, 1_000_000, 6_000)};
            case "permit":
                int from = small(0, 9_999_999, 5_000);
                return new long[] {from, from + (long) small(1, 100_000, 3_000), small(1, 1_000_000, 300)};
            case "ground":
                return groundEdges();
            case "touches":
                return new long[] {some(0, 29)};
            case "surprise":
                return new long[] {random.nextInt()};
            default:
                return new long[0];
        }
    }

    private int place() {
        return random.nextInt(3) == 0 ? some(-10_000, 10_000) : some(-4, 4);
    }

    private int next(int q) {
        if (random.nextInt(4) == 0 || q < 0 || q > 14) {
            return -1;
        }
        return some(q + 1, Math.min(15, q + 4));
    }

    private int nextDay() {
        int day = todayAtMost + small(0, 3_000, 10);
        if (random.nextInt(20) == 0) {
            day = some(0, 99_999);
        }
        if (day >= todayAtMost && day <= Math.min(99_999, todayAtMost + 20_000)) {
            todayAtMost = day;
            return day;
        }
        return random.nextInt(2) == 0 ? todayAtMost - 1 : 100_000;
    }

    private long told() {
        long bits = random.nextLong() << 35;
        int first = random.nextInt(8);
        for (int i = 0; i < 7; i++) {
            long point = random.nextInt(12) == 0 ? random.nextInt(32) : (first + i * 3) % 10;
            bits |= point << (5 * i);
        }
        return bits;
    }

    private long[] groundEdges() {
        int x1 = groundEdge();
        int y1 = groundEdge();
        long[] edges = {x1, y1, x1 + (long) small(1, 1_000_000, 9_000), y1 + (long) small(1, 1_000_000, 9_000)};
        for (int i = 0; i < 4; i++) {
            edges[i] = (int) edges[i];
        }
        return edges;
    }

    private int groundEdge() {
        return random.nextInt(3) == 0 ? some(-10_000_000, 10_000_000) : some(-15_000, 15_000);
    }

    private static IntSupplier nothing(Runnable call) {
        return () -> {
            call.run();
            return 0;
        };
    }

    private IntSupplier onRows(String name, long[] g) {
        int[] n = ints(g);
        switch (name) {
            case "weight": return nothing(() -> rows.weight(n[0], n[1]));
            case "steps": return nothing(() -> rows.steps(n[0], n[1], n[2]));
            case "interval": return nothing(() -> rows.interval(n[0], n[1], n[2]));
            case "point": return () -> rows.point(n[0], n[1], n[2], n[3], n[4]);
            case "day": return nothing(() -> rows.day(n[0]));
            case "visit": return nothing(() -> rows.visit(n[0]));
            case "finding": return () -> rows.finding(n[0], n[1], n[2]);
            case "done": return nothing(() -> rows.done(n[0], n[1]));
            case "findingAt": return () -> rows.findingAt(n[0], n[1]);
            case "pointAt": return () -> rows.pointAt(n[0], n[1]);
            case "due": return () -> rows.due(n[0], n[1]);
            case "question": return nothing(() -> rows.question(n[0], n[1], n[2], n[3]));
            case "list": return () -> rows.list(n[0], n[1]);
            case "walk": return () -> rows.walk(g[0], n[1]);
            case "stop": return () -> rows.stop(n[0]);
            case "rules": return nothing(() -> rows.rules(n[0], n[1]));
            case "permit": return () -> rows.permit(n[0], n[1], n[2]);
            case "ground": return nothing(() -> rows.ground(n[0], n[1], n[2], n[3]));
            case "clash": return rows::clash;
            case "touches": return () -> rows.touches(n[0]);
            default: return () -> rows.surprise(n[0]);
        }
    }

    private IntSupplier onModel(String name, long[] g) {
        int[] n = ints(g);
        switch (name) {
            case "weight": return nothing(() -> model.weight(n[0], n[1]));
            case "steps": return nothing(() -> model.steps(n[0], n[1], n[2]));
            case "interval": return nothing(() -> model.interval(n[0], n[1], n[2]));
            case "point": return () -> model.point(n[0], n[1], n[2], n[3], n[4]);
            case "day": return nothing(() -> model.day(n[0]));
            case "visit": return nothing(() -> model.visit(n[0]));
            case "finding": return () -> model.finding(n[0], n[1], n[2]);
            case "done": return nothing(() -> model.done(n[0], n[1]));
            case "findingAt": return () -> model.findingAt(n[0], n[1]);
            case "pointAt": return () -> model.pointAt(n[0], n[1]);
            case "due": return () -> model.due(n[0], n[1]);
            case "question": return nothing(() -> model.question(n[0], n[1], n[2], n[3]));
            case "list": return () -> model.list(n[0], n[1]);
            case "walk": return () -> model.walk(g[0], n[1]);
            case "stop": return () -> model.stop(n[0]);
            case "rules": return nothing(() -> model.rules(n[0], n[1]));
            case "permit": return () -> model.permit(n[0], n[1], n[2]);
            case "ground": return nothing(() -> model.ground(n[0], n[1], n[2], n[3]));
            case "clash": return model::clash;
            case "touches": return () -> model.touches(n[0]);
            default: return () -> model.surprise(n[0]);
        }
    }

    private static int[] ints(long[] args) {
        int[] n = new int[args.length];
        for (int i = 0; i < n.length; i++) {
            n[i] = (int) args[i];
        }
        return n;
    }
}
