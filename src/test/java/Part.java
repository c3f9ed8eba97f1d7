/**
 * All that can be learnt of an object in a scene, in parts: each is asked of an object of its own, as
 * many of them must change it to learn what it holds, and as an object is good for 512 calls.
 */
enum Part {
    POINTS, FINDINGS, FINDING_DAYS, PROOFS, FINDING_WEIGHTS, DUE, STOPS, TOUCHES, CLASH, SURPRISE, DAY, KINDS,
    STEPS, INTERVALS_AND_TIMES, QUESTIONS, RULES_AND_GROUND, NUMBERS;

    /** The calls with their outcomes. */
    String of(InspectRows x, Scene scene) {
        Asked asked = new Asked(x);
        switch (this) {
            case POINTS:
                askEach(asked, "pointAt", scene.points, 0, 4);
                break;
            case FINDINGS:
                askEach(asked, "findingAt", scene.findings, 0, 1);
                break;
            case FINDING_DAYS:
                askEach(asked, "findingAt", scene.findings, 2, 3);
                break;
            case PROOFS:
                askEach(asked, "findingAt", scene.findings, 4, 4);
                break;
            case FINDING_WEIGHTS:
                askFindingWeights(asked, scene);
                break;
            case DUE:
                askDue(asked, scene);
                break;
            case STOPS:
                askUpTo(asked, "stop", 7);
                break;
            case TOUCHES:
                askUpTo(asked, "touches", scene.permits);
                break;
            case CLASH:
                asked.call("clash");
                break;
            case SURPRISE:
                askUpTo(asked, "surprise", 9);
                break;
            case DAY:
                askDay(asked, scene);
                break;
            case KINDS:
                askKinds(asked, scene);
                break;
            case STEPS:
                askSteps(asked);
                break;
            case INTERVALS_AND_TIMES:
                askIntervalsAndTimes(asked, scene);
                break;
            case QUESTIONS:
                askQuestions(asked);
                break;
            case RULES_AND_GROUND:
                askRulesAndGround(asked);
                break;
            default:
                askNumbers(asked);
        }
        return asked.text.toString();
    }

    private static final class Asked {
        private final InspectRows x;
        private final StringBuilder text = new StringBuilder();

        Asked(InspectRows x) {
            this.x = x;
        }

        void call(String name, long... args) {
            text.append(Calls.text(name, args)).append('=').append(Calls.outcome(x, name, args)).append(' ');
        }
    }

    private static void askEach(Asked asked, String name, int count, int firstWhat, int lastWhat) {
        for (int number = 0; number <= count; number++) {
            for (int what = firstWhat; what <= lastWhat; what++) {
                asked.call(name, number, what);
            }
        }
    }

    private static void askUpTo(Asked asked, String name, int last) {
        for (int i = 0; i <= last; i++) {
            asked.call(name, i);
        }
    }

    private static void askFindingWeights(Asked asked, Scene scene) {
        for (int finding = 0; finding < scene.findings; finding++) {
            asked.call("done", finding, 1);
            asked.call("pointAt", scene.pointOf(finding), 0);
        }
    }

    private static void askDue(Asked asked, Scene scene) {
        for (int day : new int[] {scene.today, scene.today + 100, 99_999}) {
            for (int i = 0; i <= scene.points; i++) {
                asked.call("due", day, i);
            }
        }
    }

    private static void askDay(Asked asked, Scene scene) {
        asked.call("day", scene.today - 1);
        asked.call("point", 0, 0, 0, 0, 0);
        asked.call("visit", 0);
        asked.call("pointAt", 0, 2);
    }

    private static void askKinds(Asked asked, Scene scene) {
        for (int kind = 0; kind < 5; kind++) {
            asked.call("point", kind, 0, 0, 0, 0);
            asked.call("pointAt", scene.points + kind, 0);
        }
    }

    private static void askSteps(Asked asked) {
        asked.call("point", 0, 0, 0, 0, 0);
        for (int weight = 0; weight <= 100; weight++) {
            asked.call("weight", 0, weight);
            asked.call("pointAt", 0, 1);
        }
    }

    private static void askIntervalsAndTimes(Asked asked, Scene scene) {
        asked.call("point", 0, 0, 0, 0, 0);
        asked.call("visit", 0);
        for (int cls = 0; cls < 4; cls++) {
            asked.call("steps", cls > 0 ? 0 : 100_000, cls > 1 ? 0 : 100_000, cls > 2 ? 0 : 100_000);
            asked.call("pointAt", 0, 1);
            asked.call("pointAt", 0, 3);
            asked.call("finding", 0, 1, -1);
            asked.call("findingAt", scene.findings + cls, 3);
        }
    }

    private static void askQuestions(Asked asked) {
        asked.call("point", 0, 0, 0, 0, 0);
        for (int answers = 0; answers < 16; answers++) {
            asked.call("list", 0, answers);
            asked.call("pointAt", 0, 0);
            asked.call("list", 0, answers | 0xFFF0);
            asked.call("pointAt", 0, 0);
        }
    }

    /**
     * Crowds tell the space (the grounds of the scenes are for 12 and for 200); later grounds, round the
     * first one, tell where it is and the distance.
     */
    private static void askRulesAndGround(Asked asked) {
        for (int crowd : new int[] {1, 11, 12, 13, 199, 200, 201}) {
            askPermit(asked, 9_000_000 + crowd, crowd);
        }
        askPermit(asked, 500, 1);
        int[][] corners = {
            {21_000, 3_000}, {20_999, 3_000}, {14_500, 3_000}, {14_501, 3_000},
            {18_000, 10_000}, {18_000, 9_999}, {18_000, -3_000}, {18_000, -2_999},
        };
        for (int side = corners.length - 1; side >= 0; side--) {
            int x1 = corners[side][0];
            int y1 = corners[side][1];
            asked.call("ground", x1, y1, x1 + 1_000, y1 + 1_000);
            askPermit(asked, 9_000_001, 1);
        }
    }

    private static void askPermit(Asked asked, int from, int crowd) {
        asked.call("permit", from, from + 1, crowd);
        asked.call("clash");
    }

    private static void askNumbers(Asked asked) {
        asked.call("point", 0, 0, 0, 0, 0);
        asked.call("finding", 0, 1, 0);
        asked.call("ground", -10_000_000, -10_000_000, -9_000_000, -9_000_000);
        asked.call("permit", 0, 9_999_999, 1);
    }
}
