import java.util.ArrayList;
import java.util.Arrays;
import java.util.List;
import java.util.Random;

/**
 * Runs of 512 random calls, compared with the plain model. Behind each refusal some of the state is asked
 * for, so that what is refused is seen to change nothing.
 */
public final class RandomRunsTest {
    private static final int RUNS = 1_500;
    private static final int ASKS_BEHIND_A_REFUSAL = 3;
    private static final int EDGES_IN_100 = 6;
    private static final String[] NAMES = {
        "weight", "steps", "interval", "point", "day", "visit", "finding", "done", "findingAt", "pointAt",
        "due", "question", "list", "walk", "stop", "rules", "permit", "ground", "clash", "touches", "surprise",
    };
    private static final String[] ASKS = {"findingAt", "pointAt", "due", "stop", "clash", "touches", "surprise"};

    private final Random random;
    private final InspectRows rows = new InspectRows();
    private final PlainModel model = new PlainModel();
    private final List<String> calls = new ArrayList<>();
    private final int[] liking = new int[NAMES.length];
    private int today = 0;
    private int points = 0;
    private int findings = 0;
    private int permits = 0;
    private int questions = 0;

    private RandomRunsTest(int seed) {
        random = new Random(seed);
        for (int i = 0; i < liking.length; i++) {
            liking[i] = 1 + random.nextInt(8);
        }
        // Most runs are full of points, permits or findings, made one by one or by lists, before they end.
        liking[indexOf(new String[] {"point", "permit", "finding", "list"}[seed % 4])] += 60;
    }

    public static void main(String[] args) {
        for (int run = 0; run < RUNS && Check.wrongSoFar() == 0; run++) {
            new RandomRunsTest(run).run();
        }
        Check.finish();
    }

    private void run() {
        int asks = 0;
        while (calls.size() < Calls.PROMISED) {
            String name = asks > 0 ? ASKS[random.nextInt(ASKS.length)] : pick();
            long[] args = argumentsOf(name);
            String got = Calls.outcome(rows, name, args);
            String due = Calls.outcome(model, name, args);
            calls.add(Calls.text(name, args) + "=" + got);
            Check.isTrue(Calls.text(name, args) + " answered " + got + ", due is " + due, got.equals(due));
            if (!got.equals(due)) {
                System.out.println("the run: " + String.join(" ", calls));
                return;
            }
            if (Calls.isRefused(got)) {
                asks = asks > 0 ? asks - 1 : ASKS_BEHIND_A_REFUSAL;
            } else {
                asks = Math.max(0, asks - 1);
                count(name, got);
            }
        }
    }

    private static int indexOf(String name) {
        return Arrays.asList(NAMES).indexOf(name);
    }

    private String pick() {
        int all = 0;
        for (int one : liking) {
            all += one;
        }
        int left = random.nextInt(all);
        for (int i = 0; i < NAMES.length; i++) {
            left -= liking[i];
            if (left < 0) {
                return NAMES[i];
            }
        }
        return NAMES[0];
    }

    /** How many there are, so that most calls are of something that is there. */
    private void count(String name, String answer) {
        points += name.equals("point") ? 1 : 0;
        permits += name.equals("permit") ? 1 : 0;
        findings += name.equals("finding") ? 1 : name.equals("list") ? Integer.parseInt(answer) : 0;
    }

    /** Mostly within low .. high, at times on an edge, just outside, or far outside. */
    private int some(int low, int high) {
        if (random.nextInt(100) >= EDGES_IN_100) {
            return low + (int) (random.nextDouble() * ((double) high - low + 1));
        }
        int[] edges = {low, high, low - 1, high + 1, low, high, Integer.MIN_VALUE, Integer.MAX_VALUE, 0, -1, -2};
        return edges[random.nextInt(edges.length)];
    }

    private int oneOf(int count) {
        return some(0, Math.max(0, count - 1));
    }

    private int small(int low, int high, int mostly) {
        return random.nextInt(4) == 0 ? some(low, high) : some(low, Math.min(high, mostly));
    }

    private long[] argumentsOf(String name) {
        switch (name) {
            case "weight":
                return new long[] {some(0, 4), small(0, 100, 12)};
            case "steps":
                int a = small(0, 100_000, 20);
                return new long[] {a, a + random.nextInt(20), a + small(0, 60, 30)};
            case "interval":
                return new long[] {some(0, 3), small(1, 4_000, 40), small(0, 1_000, 20)};
            case "point":
                return new long[] {some(0, 4), small(0, 3_000, 200), small(0, 100_000, 900), place(), place()};
            case "day":
                return new long[] {nextDay()};
            case "visit":
                return new long[] {oneOf(points)};
            case "finding":
                return new long[] {oneOf(points), small(1, 50, 8), random.nextInt(3) == 0 ? -1 : small(0, 1_000, 20)};
            case "done":
                return new long[] {oneOf(findings), some(1, 9_999)};
            case "findingAt":
                return new long[] {oneOf(findings), some(0, 4)};
            case "pointAt":
                return new long[] {oneOf(points), some(0, 4)};
            case "due":
                return new long[] {Math.min(99_999L, today + (long) small(0, 5_000, 50)), oneOf(points)};
            case "question":
                // One after the other at first: a list needs most of them.
                int q = questions < 16 && random.nextInt(4) != 0 ? questions++ : some(0, 15);
                return new long[] {q, next(q), next(q), random.nextInt(3) == 0 ? 0 : some(0, 50)};
            case "list":
                return new long[] {oneOf(points), random.nextInt()};
            case "walk":
                return new long[] {told(), random.nextInt(3) == 0 ? some(0, 7) : some(0, Math.min(7, points))};
            case "stop":
                return new long[] {some(0, 7)};
            case "rules":
                return new long[] {small(0, 10_000_000, 1_000), small(0, 1_000_000, 6_000)};
            case "permit":
                int from = random.nextInt(3) == 0 ? small(0, 9_999_999, 5_000) : some(0, 200_000);
                return new long[] {from, from + (long) small(1, 100_000, 3_000), small(1, 1_000_000, 20)};
            case "ground":
                return groundEdges();
            case "touches":
                return new long[] {oneOf(permits)};
            case "surprise":
                return new long[] {random.nextInt()};
            default:
                return new long[0];
        }
    }

    private int place() {
        return random.nextInt(3) == 0 ? some(-10_000, 10_000) : some(-4, 4);
    }

    private int next(int q) {
        if (random.nextInt(4) == 0 || q < 0 || q > 14) {
            return -1;
        }
        return some(q + 1, Math.min(15, q + 4));
    }

    private int nextDay() {
        int day = today + small(0, 3_000, 10);
        if (random.nextInt(20) == 0) {
            day = some(0, 99_999);
        }
        if (day >= today && day <= Math.min(99_999, today + 20_000)) {
            today = day;
            return day;
        }
        return random.nextInt(2) == 0 ? today - 1 : 100_000;
    }

    private long told() {
        long bits = random.nextLong() << 35;
        int first = random.nextInt(8);
        for (int i = 0; i < 7; i++) {
            long point = random.nextInt(25) == 0 ? random.nextInt(32) : (first + i * 3L) % Math.max(1, points);
            bits |= point << (5 * i);
        }
        return bits;
    }

    private long[] groundEdges() {
        int x1 = groundEdge();
        int y1 = groundEdge();
        long[] edges = {x1, y1, x1 + (long) small(1, 1_000_000, 9_000), y1 + (long) small(1, 1_000_000, 9_000)};
        for (int i = 0; i < 4; i++) {
            edges[i] = (int) edges[i];
        }
        return edges;
    }

    private int groundEdge() {
        return random.nextInt(3) == 0 ? some(-10_000_000, 10_000_000) : some(-15_000, 15_000);
    }
}
