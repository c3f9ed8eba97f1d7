import java.util.ArrayList;
import java.util.Arrays;
import java.util.EnumMap;
import java.util.List;
import java.util.Map;

/**
 * Terms: "Refusals, in this order" and "What is refused changes nothing". Each number of each call, with
 * its last values inside and its first ones outside, alone and where two refusals meet, in objects that
 * are new, busy and full. After each refusal all that can be learnt of the object is as without the call.
 */
public final class RefusalsTest {
    private static final List<Class<?>> ORDER = List.of(Check.UNKNOWN, Check.RANGE, Check.STATE, Check.ROOM);
    private static final Map<Scene, Map<Part, String>> UNTOUCHED = new EnumMap<>(Scene.class);

    public static void main(String[] args) {
        for (Scene scene : Scene.values()) {
            Map<Part, String> parts = new EnumMap<>(Part.class);
            for (Part part : Part.values()) {
                parts.put(part, part.of(scene.make(), scene));
            }
            UNTOUCHED.put(scene, parts);
        }
        for (Scene scene : Scene.values()) {
            Check.test("2 weight", () -> weight(scene));
            Check.test("3 steps", () -> steps(scene));
            Check.test("4 interval", () -> interval(scene));
            Check.test("6 day", () -> day(scene));
            Check.test("12 due", () -> due(scene));
            Check.test("13 question", () -> question(scene));
            Check.test("16 stop", () -> stop(scene));
            Check.test("17 rules", () -> rules(scene));
            Check.test("19 ground", () -> ground(scene));
        }
        Check.test("5 point", RefusalsTest::point);
        Check.test("7 visit", RefusalsTest::visit);
        Check.test("8 finding", RefusalsTest::finding);
        Check.test("9 done", RefusalsTest::done);
        Check.test("10 findingAt", () -> ofSomethingAndWhat("findingAt", Scene.BUSY.findings, Scene.FULL.findings));
        Check.test("11 pointAt", () -> ofSomethingAndWhat("pointAt", Scene.BUSY.points, Scene.FULL.points));
        Check.test("14 list", RefusalsTest::list);
        Check.test("15 walk", RefusalsTest::walk);
        Check.test("18 permit", RefusalsTest::permit);
        Check.test("18 permit that is full", RefusalsTest::permitOfFull);
        Check.test("21 touches", RefusalsTest::touches);
        Check.test("22 surprise", RefusalsTest::surprise);
        Check.finish();
    }

    private static void weight(Scene scene) {
        new Row(scene, "weight", 1, 50).unknown(0, 0, 4).range(1, 0, 100).check();
    }

    private static void steps(Scene scene) {
        new Row(scene, "steps", 10, 20, 30).range(0, 0, 20).range(1, 10, 30).range(2, 20, 100_000).check();
        new Row(scene, "steps", 0, 0, 0).range(0, 0, 0).range(1, 0, 0).range(2, 0, 100_000).check();
        new Row(scene, "steps", 100_000, 100_000, 100_000)
            .range(0, 0, 100_000).range(1, 100_000, 100_000).range(2, 100_000, 100_000).check();
    }

    private static void interval(Scene scene) {
        new Row(scene, "interval", 1, 50, 50).unknown(0, 0, 3).range(1, 1, 4_000).range(2, 0, 1_000).check();
    }

    private static void point() {
        for (Scene scene : Scene.values()) {
            Row row = new Row(scene, "point", 1, 50, 50, 5, 5).unknown(0, 0, 4)
                .range(1, 0, 3_000).range(2, 0, 100_000).range(3, -10_000, 10_000).range(4, -10_000, 10_000);
            (scene == Scene.FULL ? row.but(Check.ROOM) : row).check();
        }
    }

    private static void day(Scene scene) {
        new Row(scene, "day", scene.today).range(0, scene.today, 99_999).check();
    }

    private static void visit() {
        new Row(Scene.FRESH, "visit", 0).but(Check.UNKNOWN).check();
        new Row(Scene.BUSY, "visit", 0).unknown(0, 0, 4).check();
        new Row(Scene.FULL, "visit", 0).unknown(0, 0, 29).check();
    }

    private static void finding() {
        new Row(Scene.FRESH, "finding", 0, 5, 5).but(Check.UNKNOWN).range(1, 1, 50).range(2, -1, 1_000).check();
        new Row(Scene.BUSY, "finding", 0, 5, 5).unknown(0, 0, 4).range(1, 1, 50).range(2, -1, 1_000).check();
        new Row(Scene.FULL, "finding", 0, 5, 5).but(Check.ROOM)
            .unknown(0, 0, 29).range(1, 1, 50).range(2, -1, 1_000).check();
    }

    private static void done() {
        new Row(Scene.FRESH, "done", 0, 7).but(Check.UNKNOWN).range(1, 1, 9_999).check();
        new Row(Scene.BUSY, "done", 0, 7).unknown(0, 0, 3).range(1, 1, 9_999).check();
        new Row(Scene.BUSY, "done", 1, 7).but(Check.STATE).range(1, 1, 9_999).check();
        new Row(Scene.BUSY, "done", 1, 77).but(Check.STATE).check();
        new Row(Scene.FULL, "done", 1, 7)
            .number(Check.UNKNOWN, 0, values(1, 98), values(-1, 100, Integer.MIN_VALUE, Integer.MAX_VALUE))
            .range(1, 1, 9_999).check();
        new Row(Scene.FULL, "done", 0, 7).but(Check.STATE).range(1, 1, 9_999).check();
        new Row(Scene.FULL, "done", 99, 7).but(Check.STATE).range(1, 1, 9_999).check();
    }

    private static void ofSomethingAndWhat(String name, int busy, int full) {
        new Row(Scene.FRESH, name, 0, 0).but(Check.UNKNOWN).unknown(1, 0, 4).check();
        new Row(Scene.BUSY, name, 0, 0).unknown(0, 0, busy - 1).unknown(1, 0, 4).check();
        new Row(Scene.FULL, name, 0, 0).unknown(0, 0, full - 1).unknown(1, 0, 4).check();
    }

    private static void due(Scene scene) {
        new Row(scene, "due", scene.today, 0).range(0, scene.today, 99_999)
            .number(Check.RANGE, 1, values(0, 29, 30, Integer.MAX_VALUE), values(-1, Integer.MIN_VALUE)).check();
    }

    private static void question(Scene scene) {
        long[] beyond = {-2, 16, Integer.MIN_VALUE, Integer.MAX_VALUE};
        for (int q : new int[] {0, 4, 14}) {
            long[] outside = {q, q - 1 == -1 ? -3 : q - 1, -2, 16, Integer.MIN_VALUE, Integer.MAX_VALUE};
            new Row(scene, "question", q, -1, -1, 5).number(Check.UNKNOWN, 0, values(q), values(-1, 16))
                .number(Check.RANGE, 1, values(-1, q + 1, 15), outside)
                .number(Check.RANGE, 2, values(-1, q + 1, 15), outside)
                .range(3, 0, 50).check();
        }
        new Row(scene, "question", 15, -1, -1, 5).unknown(0, 0, 15)
            .number(Check.RANGE, 1, values(-1), values(0, 14, 15)).number(Check.RANGE, 2, values(-1), values(0, 14, 15))
            .check();
        new Row(scene, "question", 15, -1, -1, 5)
            .number(Check.RANGE, 1, values(-1), beyond).number(Check.RANGE, 2, values(-1), beyond).check();
    }

    private static void list() {
        new Row(Scene.FRESH, "list", 0, 0).but(Check.UNKNOWN).check();
        new Row(Scene.BUSY, "list", 0, 0b1000).unknown(0, 0, 4).check();
        new Row(Scene.BUSY, "list", 0, 0b0011).but(Check.STATE).unknown(0, 0, 4).check();
        new Row(Scene.FULL, "list", 0, 0).but(Check.ROOM).unknown(0, 0, 29).check();
        new Row(Scene.FULL, "list", 0, 0x7FFF).but(Check.ROOM).unknown(0, 0, 29).check();
        new Row(Scene.FULL, "list", 0, 0xFFFE).unknown(0, 0, 29).check();
    }

    private static long told(int... points) {
        long bits = 0;
        for (int i = 0; i < points.length; i++) {
            bits |= (long) points[i] << (5 * i);
        }
        return bits;
    }

    private static void walk() {
        for (int n : new int[] {1, 7, 8, Integer.MAX_VALUE}) {
            refused(Scene.FRESH, Check.UNKNOWN, "walk", 0, n);
        }
        for (Scene scene : Scene.values()) {
            // Without points that are looked at, none of them can be unknown.
            for (int n : new int[] {-1, -7, Integer.MIN_VALUE}) {
                refused(scene, Check.RANGE, "walk", -1L, n);
            }
            taken(scene, "walk", -1L, 0);
        }
        taken(Scene.BUSY, "walk", told(4, 3, 2, 1, 0), 5);
        refused(Scene.BUSY, Check.RANGE, "walk", told(4, 3, 2, 1, 0, 4), 6);
        refused(Scene.BUSY, Check.RANGE, "walk", told(4, 4), 2);
        refused(Scene.BUSY, Check.UNKNOWN, "walk", told(4, 4, 5), 3);
        refused(Scene.BUSY, Check.UNKNOWN, "walk", told(5, 4, 4), 3);
        taken(Scene.BUSY, "walk", told(4, 5), 1);
        for (int place = 0; place < 7; place++) {
            int[] points = {23, 24, 25, 26, 27, 28, 29, 31};
            taken(Scene.FULL, "walk", told(points), place + 1);
            points[place] = 30;
            refused(Scene.FULL, Check.UNKNOWN, "walk", told(points), place + 1);
            refused(Scene.FULL, Check.UNKNOWN, "walk", told(points), 8);
            refused(Scene.FULL, Check.UNKNOWN, "walk", told(points), Integer.MAX_VALUE);
            points[place] = 31;
            refused(Scene.FULL, Check.UNKNOWN, "walk", told(points), place + 1);
            points[place] = place == 0 ? 24 : 23;
            refused(Scene.FULL, Check.RANGE, "walk", told(points), Math.max(2, place + 1));
        }
        refused(Scene.FULL, Check.RANGE, "walk", told(23, 24, 25, 26, 27, 28, 29, 22), 8);
        refused(Scene.FULL, Check.RANGE, "walk", told(23, 24, 25, 26, 27, 28, 29, 30), 8);
        refused(Scene.FULL, Check.RANGE, "walk", told(23, 24, 25, 26, 27, 28, 29), Integer.MAX_VALUE);
    }

    private static void stop(Scene scene) {
        new Row(scene, "stop", 0)
            .number(Check.RANGE, 0, values(0, 6, 7, Integer.MAX_VALUE), values(-1, Integer.MIN_VALUE)).check();
    }

    private static void rules(Scene scene) {
        new Row(scene, "rules", 5, 5).range(0, 0, 10_000_000).range(1, 0, 1_000_000).check();
    }

    private static void ground(Scene scene) {
        new Row(scene, "ground", 0, 0, 10, 10).range(0, -10_000_000, 9).range(1, -10_000_000, 9)
            .range(2, 1, 10_000_000).range(3, 1, 10_000_000).check();
    }

    private static void permit() {
        new Row(Scene.FRESH, "permit", 10, 20, 1).but(Check.STATE).clash(-2)
            .range(0, 0, 19).range(1, 11, 9_999_999).range(2, 1, 1_000_000).check();
        // In the busy scene the ground is for 12, and near permit 1 up to minute 3,000.
        new Row(Scene.BUSY, "permit", 5_000, 6_000, 12)
            .number(Check.RANGE, 0, values(3_000, 5_999), values(-1, 6_000, Integer.MIN_VALUE, Integer.MAX_VALUE))
            .range(1, 5_001, 9_999_999)
            .number(Check.RANGE, 2, values(1, 12), values(0, 1_000_001, Integer.MIN_VALUE, Integer.MAX_VALUE)).check();
        new Row(Scene.BUSY, "permit", 5_000, 6_000, 13).but(Check.STATE).clash(-3)
            .range(0, 0, 5_999).range(1, 5_001, 9_999_999)
            .number(Check.RANGE, 2, values(13, 1_000_000), values(0, 1_000_001)).check();
        new Row(Scene.BUSY, "permit", 50, 120, 12).but(Check.STATE).clash(1)
            .range(0, 0, 119).range(1, 101, 9_999_999, 50, 10_000_000)
            .number(Check.RANGE, 2, values(1, 12), values(0, 1_000_001)).check();
        new Row(Scene.BUSY, "permit", 50, 120, 13).but(Check.STATE).clash(-3).check();
    }

    private static void permitOfFull() {
        new Row(Scene.FULL, "permit", 30_000, 31_000, 1).but(Check.ROOM).clash(-1)
            .range(0, 30_000, 30_999, -1, 31_000).range(1, 30_001, 9_999_999, 30_000, 10_000_000)
            .range(2, 1, 200, 0, 1_000_001).check();
        new Row(Scene.FULL, "permit", 29_999, 31_000, 1).but(Check.STATE).clash(29)
            .range(0, 29_000, 29_999, -1, 31_000).range(1, 30_000, 9_999_999, 29_999, 10_000_000)
            .range(2, 1, 200, 0, 1_000_001).check();
        new Row(Scene.FULL, "permit", 0, 9_999_999, 1).but(Check.STATE).clash(0).check();
        new Row(Scene.FULL, "permit", 30_000, 31_000, 201).but(Check.STATE).clash(-3)
            .range(2, 201, 1_000_000, 0, 1_000_001).check();
        new Row(Scene.FULL, "permit", 0, 1, 201).but(Check.STATE).clash(-3).check();
    }

    private static void touches() {
        new Row(Scene.FRESH, "touches", 0).but(Check.UNKNOWN).check();
        new Row(Scene.BUSY, "touches", 0).unknown(0, 0, 1).check();
        new Row(Scene.FULL, "touches", 0).unknown(0, 0, 29).check();
    }

    private static void surprise() {
        for (int seed : new int[] {0, 1, -1, Integer.MIN_VALUE, Integer.MAX_VALUE}) {
            new Row(Scene.FRESH, "surprise", seed).but(Check.STATE).check();
            new Row(Scene.BUSY, "surprise", seed).check();
            new Row(Scene.FULL, "surprise", seed).check();
        }
    }

    private static long[] values(long... values) {
        return values;
    }

    private static void taken(Scene scene, String name, long... args) {
        String got = Calls.outcome(scene.make(), name, args);
        Check.isTrue(scene + ": " + Calls.text(name, args) + " answered " + got + ", due is that it is taken",
            !Calls.isRefused(got));
    }

    private static void refused(Scene scene, Class<?> want, String name, long... args) {
        refused(scene, want, Arrays.asList(Part.values()), name, args);
    }

    private static void refused(Scene scene, Class<?> want, List<Part> kept, String name, long... args) {
        String call = scene + ": " + Calls.text(name, args);
        String due = Calls.refusal(want);
        for (Part part : kept) {
            InspectRows x = scene.make();
            String got = Calls.outcome(x, name, args);
            Check.isTrue(call + " answered " + got + ", due is " + due, got.equals(due));
            String untouched = UNTOUCHED.get(scene).get(part);
            Check.isTrue(call + " is refused, but changes " + part, part.of(x, scene).equals(untouched));
            if (!got.equals(due)) {
                return;
            }
        }
    }

    /** Only what clash() tells may change: it tells of the latest permit that its range did not refuse. */
    private static void refusedPermit(Scene scene, Class<?> want, int clash, long... args) {
        List<Part> kept = new ArrayList<>(Arrays.asList(Part.values()));
        kept.remove(Part.CLASH);
        refused(scene, want, kept, "permit", args);
        InspectRows x = scene.make();
        Calls.outcome(x, "permit", args);
        Check.equal(scene + ": " + Calls.text("permit", args) + ", then clash()", x.clash(), clash);
    }

    private record Number(Class<?> refusal, int index, long[] inside, long[] outside) {
    }

    /** A call with good numbers, and for some of them the values at their ends. */
    private static final class Row {
        private final Scene scene;
        private final String name;
        private final long[] good;
        private final List<Number> numbers = new ArrayList<>();
        private Class<?> refusal = null;
        private int clash = 0;

        Row(Scene scene, String name, long... good) {
            this.scene = scene;
            this.name = name;
            this.good = good;
        }

        Row unknown(int index, int low, int high) {
            return number(Check.UNKNOWN, index, values(low, high), outside(low, high));
        }

        Row range(int index, int low, int high) {
            return number(Check.RANGE, index, values(low, high), outside(low, high));
        }

        Row range(int index, int low, int high, int below, int above) {
            return number(Check.RANGE, index, values(low, high), values(below, above));
        }

        Row number(Class<?> want, int index, long[] inside, long[] outside) {
            numbers.add(new Number(want, index, inside, outside));
            return this;
        }

        /** Even with good numbers the call is refused, by what the scene is. */
        Row but(Class<?> want) {
            refusal = want;
            return this;
        }

        Row clash(int due) {
            clash = due;
            return this;
        }

        void check() {
            checkCall(refusal, good);
            for (Number number : numbers) {
                for (long value : number.inside()) {
                    checkCall(refusal, with(good, number, value));
                }
                for (long value : number.outside()) {
                    checkCall(first(refusal, number.refusal()), with(good, number, value));
                }
            }
            for (int i = 0; i < numbers.size(); i++) {
                for (int j = 0; j < i; j++) {
                    checkMeeting(numbers.get(j), numbers.get(i));
                }
            }
        }

        private void checkMeeting(Number a, Number b) {
            Class<?> want = first(refusal, first(a.refusal(), b.refusal()));
            for (int i = 0; i < 2 && i < a.outside().length; i++) {
                for (int j = 0; j < 2 && j < b.outside().length; j++) {
                    checkCall(want, with(with(good, a, a.outside()[i]), b, b.outside()[j]));
                }
            }
        }

        private void checkCall(Class<?> want, long[] args) {
            if (want == null) {
                taken(scene, name, args);
            } else if (name.equals("permit") && want != Check.RANGE) {
                refusedPermit(scene, want, clash, args);
            } else {
                refused(scene, want, name, args);
            }
        }

        private static long[] outside(int low, int high) {
            return values(low - 1L, high + 1L, Integer.MIN_VALUE, Integer.MAX_VALUE);
        }

        private static long[] with(long[] args, Number number, long value) {
            long[] changed = args.clone();
            changed[number.index()] = value;
            return changed;
        }

        private static Class<?> first(Class<?> a, Class<?> b) {
            return a == null || ORDER.indexOf(b) < ORDER.indexOf(a) ? b : a;
        }
    }
}
