import java.util.Random;

/** Long runs of calls, the same ones every time, each answer beside that of the model. */
public final class ModelTests {
    private static final int CALLS = 512;
    private static final int RUNS = 200;
    private static final int[] WILD = {-1, 0, 1, 2, 19, 20, 21, 99, 100, 999, 1000, Integer.MIN_VALUE, Integer.MAX_VALUE};
    private static final String SIGNS = "abcdefghijklmnopqrstu0123456789*<+;";

    private final Random random;
    private final SlackPlan plan = new SlackPlan();
    private final Model model = new Model();
    private final StringBuilder written = new StringBuilder();
    private final int taste;
    private int calls = 0;

    private ModelTests(int seed) {
        random = new Random(seed);
        taste = seed % 4;
    }

    public static void main(String[] args) {
        for (int run = 0; run < RUNS; run++) {
            new ModelTests(run).go(run);
        }
        Checks.end();
    }

    private void go(int run) {
        int builds = 40 + random.nextInt(120);
        while (calls < CALLS) {
            boolean build = calls < builds || random.nextInt(8) == 0;
            String name = build ? change() : ask();
            calls++;
            if (name != null) {
                Checks.holds("run " + run + ", call " + calls + ": " + name, false);
                return;
            }
        }
        Checks.holds("run " + run, true);
    }

    private int task() {
        return random.nextInt(25) == 0 ? wild() : random.nextInt(Math.max(1, model.taskCount()));
    }

    private int wild() {
        return WILD[random.nextInt(WILD.length)];
    }

    private int upTo(int greatest) {
        return random.nextInt(25) == 0 ? wild() : random.nextInt(greatest + 1);
    }

    /** The complaint if the two answers differ, else null. */
    private static String both(String call, Checks.Call first, Checks.Call second) {
        String got = Checks.answer(first);
        String due = Checks.answer(second);
        return got.equals(due) ? null : call + " answered " + got + ", due is " + due;
    }

    private String change() {
        int a = task();
        int b = task();
        int c = upTo(9);
        int length = upTo(30);
        int need = upTo(5);
        if (taste == 3 || random.nextInt(10) == 0) {
            return writeOrRead();
        }
        switch (random.nextInt(24)) {
            case 0: case 1: case 2: case 3: case 4: case 5: case 6:
                return both("addTask " + length + " " + need,
                    () -> plan.addTask(length, need), () -> model.addTask(length, need));
            case 7:
                return random.nextInt(3) > 0 ? null : both("removeTask", plan::removeTask, model::removeTask);
            case 8:
                return both("setLength " + a + " " + length,
                    () -> plan.setLength(a, length), () -> model.setLength(a, length));
            case 9:
                return both("release " + a + " " + b, () -> plan.release(a, b), () -> model.release(a, b));
            case 10:
                return both("setCrews " + c, () -> plan.setCrews(c), () -> model.setCrews(c));
            case 11:
                return both("undo", plan::undo, model::undo);
            case 12:
                return both("takeSnapshot", plan::takeSnapshot, model::takeSnapshot);
            case 13:
                return random.nextInt(4) > 0 ? null : both("restoreSnapshot", plan::restoreSnapshot, model::restoreSnapshot);
            default:
                int lag = taste == 0 ? 0 : c;
                return both("depend " + a + " " + b + " " + lag,
                    () -> plan.depend(a, b, lag), () -> model.depend(a, b, lag));
        }
    }

    private String writeOrRead() {
        int kind = random.nextInt(40);
        if (kind == 0) {
            written.setLength(0);
            return both("clearText", plan::clearText, model::clearText);
        }
        if (kind < 4) {
            return both("readPlan of " + written, plan::readPlan, model::readPlan);
        }
        if (kind < 8) {
            return both("isValid of " + written, plan::isValid, model::isValid);
        }
        if (kind < 12) {
            return both("firstError of " + written, plan::firstError, model::firstError);
        }
        char sign = nextSign();
        if (written.length() < 60) {
            written.append(sign);
        }
        return both("append " + sign + " behind " + written, () -> plan.append(sign), () -> model.append(sign));
    }

    /** Mostly a sign that can follow, as seen by the model, so that runs come to long plans. */
    private char nextSign() {
        if (random.nextInt(60) == 0) {
            return (char) random.nextInt(65536);
        }
        if (random.nextInt(40) == 0) {
            return SIGNS.charAt(random.nextInt(SIGNS.length()));
        }
        for (int tries = 0; tries < 60; tries++) {
            char sign = SIGNS.charAt(random.nextInt(SIGNS.length()));
            if (Model.canBecomePlan(written.toString() + sign)) {
                return sign;
            }
        }
        return ';';
    }

    private String ask() {
        int a = task();
        int b = task();
        int days = upTo(random.nextBoolean() ? 99 : 9);
        int day = upTo(random.nextBoolean() ? 999 : 60);
        switch (random.nextInt(31)) {
            case 0: return both("isValid of " + written, plan::isValid, model::isValid);
            case 1: return both("firstError of " + written, plan::firstError, model::firstError);
            case 2: return both("taskCount", plan::taskCount, model::taskCount);
            case 3: return both("dependencyCount", plan::dependencyCount, model::dependencyCount);
            case 4: return both("lengthOf " + a, () -> plan.lengthOf(a), () -> model.lengthOf(a));
            case 5: return both("crewsOf " + a, () -> plan.crewsOf(a), () -> model.crewsOf(a));
            case 6: return both("lagOf " + a + " " + b, () -> plan.lagOf(a, b), () -> model.lagOf(a, b));
            case 7: return both("isAhead " + a + " " + b, () -> plan.isAhead(a, b), () -> model.isAhead(a, b));
            case 8: return both("earliestStart " + a, () -> plan.earliestStart(a), () -> model.earliestStart(a));
            case 9: return both("latestStart " + a, () -> plan.latestStart(a), () -> model.latestStart(a));
            case 10: return both("planLength", plan::planLength, model::planLength);
            case 11: return both("planLengthByRounds", plan::planLengthByRounds, model::planLength);
            case 12: return both("slack " + a, () -> plan.slack(a), () -> model.slack(a));
            case 13: return both("slackByChain " + a, () -> plan.slackByChain(a), () -> model.slack(a));
            case 14: return both("freeSlack " + a, () -> plan.freeSlack(a), () -> model.freeSlack(a));
            case 15: return both("criticalTasks", plan::criticalTasks, model::criticalTasks);
            case 16: return both("criticalChains", plan::criticalChains, model::criticalChains);
            case 17: return both("longestHarmless " + a, () -> plan.longestHarmless(a), () -> model.longestHarmless(a));
            case 18:
                return both("delayOfPlan " + a + " " + days,
                    () -> plan.delayOfPlan(a, days), () -> model.delayOfPlan(a, days));
            case 19:
                return both("delayBySlack " + a + " " + days,
                    () -> plan.delayBySlack(a, days), () -> model.delayOfPlan(a, days));
            case 20:
                return both("tasksMoved " + a + " " + days,
                    () -> plan.tasksMoved(a, days), () -> model.tasksMoved(a, days));
            case 21: return both("scheduleLength", plan::scheduleLength, model::scheduleLength);
            case 22: return both("work", plan::work, model::work);
            case 23: return both("workByDays", plan::workByDays, model::workByDays);
            case 24: return both("leastCrews", plan::leastCrews, model::leastCrews);
            case 25: return both("usage", plan::usage, model::usage);
            case 26: return both("historySize", plan::historySize, model::historySize);
            case 27: case 28: return both("crewsOn " + day, () -> plan.crewsOn(day), () -> model.crewsOn(day));
            default: return both("scheduledStart " + a, () -> plan.scheduledStart(a), () -> model.scheduledStart(a));
        }
    }
}
