/** Promises 22 to 34: days, slack and delays. */
public final class DayTests {
    private static final Class<IndexOutOfBoundsException> INDEX = IndexOutOfBoundsException.class;
    private static final Class<IllegalArgumentException> ARGUMENT = IllegalArgumentException.class;
    private static final int[] NO_TASKS = {-1, 6, 20, Integer.MIN_VALUE, Integer.MAX_VALUE};
    private static final int[] NO_DAYS = {-1, 100, Integer.MIN_VALUE, Integer.MAX_VALUE};

    public static void main(String[] args) {
        promises22To31OfOneHouse();
        promises22To31AgainstTheNumbers();
        promises22To31OfAFirstTaskWithSlack();
        promises22To31WithoutTasks();
        promises22To31NameNoTask();
        promises24And25AtTheLongest();
        promise28FreeSlackOfTheLast();
        promise30CountsManyChains();
        promise30CountsWholeChainsAlone();
        promises32To34Delays();
        promises32To34Refuse();
        Checks.end();
    }

    /** a 0-3, b 3-8, c 5-7, d 8-12, e 7-13, f 16-17 at the earliest: a, c, e and f are critical. */
    private static SlackPlan house() {
        return Checks.planOf("a3*2;b5*3<a;c2<a2;d4*2<b+c1;e6*4<c;f1*5<d+e3");
    }

    private static void promises22To31OfOneHouse() {
        SlackPlan plan = house();
        int[] earliest = {0, 3, 5, 8, 7, 16};
        int[] latest = {0, 7, 5, 12, 7, 16};
        int[] free = {0, 0, 0, 4, 0, 0};
        int[] harmless = {3, 9, 2, 8, 6, 1};
        for (int task = 0; task < 6; task++) {
            Checks.same("earliestStart(" + task + ")", plan.earliestStart(task), earliest[task]);
            Checks.same("latestStart(" + task + ")", plan.latestStart(task), latest[task]);
            Checks.same("slack(" + task + ")", plan.slack(task), latest[task] - earliest[task]);
            Checks.same("slackByChain(" + task + ")", plan.slackByChain(task), latest[task] - earliest[task]);
            Checks.same("freeSlack(" + task + ")", plan.freeSlack(task), free[task]);
            Checks.same("longestHarmless(" + task + ")", plan.longestHarmless(task), harmless[task]);
        }
        Checks.same("planLength", plan.planLength(), 17);
        Checks.same("planLengthByRounds", plan.planLengthByRounds(), 17);
        Checks.same("criticalTasks", plan.criticalTasks(), 4);
        Checks.same("criticalChains", plan.criticalChains(), 1);
        plan.setLength(3, 8);
        Checks.same("criticalTasks of three chains", plan.criticalTasks(), 6);
        Checks.same("criticalChains of three chains", plan.criticalChains(), 3);
        Checks.same("historySize: asking is no modification", plan.historySize(), 2);
    }

    /** Dependencies that lead from greater numbers to lesser ones. */
    private static void promises22To31AgainstTheNumbers() {
        SlackPlan plan = Checks.planOf("a2;b3;c4;d1");
        plan.depend(3, 2, 1);
        plan.depend(2, 1, 2);
        plan.depend(1, 0, 3);
        plan.depend(3, 0, 0);
        int[] earliest = {14, 8, 2, 0};
        for (int task = 0; task < 4; task++) {
            Checks.same("earliestStart(" + task + ")", plan.earliestStart(task), earliest[task]);
            Checks.same("latestStart(" + task + ")", plan.latestStart(task), earliest[task]);
            Checks.same("slackByChain(" + task + ")", plan.slackByChain(task), 0);
        }
        Checks.same("planLength", plan.planLength(), 16);
        Checks.same("planLengthByRounds", plan.planLengthByRounds(), 16);
        Checks.same("criticalChains", plan.criticalChains(), 1);
        Checks.same("tasksMoved(3, 1)", plan.tasksMoved(3, 1), 3);
    }

    private static void promises22To31OfAFirstTaskWithSlack() {
        SlackPlan plan = Checks.planOf("a2;b9;c1");
        plan.depend(2, 0, 1);
        Checks.same("earliestStart(0)", plan.earliestStart(0), 2);
        Checks.same("latestStart(0)", plan.latestStart(0), 7);
        Checks.same("latestStart(2)", plan.latestStart(2), 5);
        Checks.same("slack(0)", plan.slack(0), 5);
        Checks.same("slackByChain(0)", plan.slackByChain(0), 5);
        Checks.same("longestHarmless(0)", plan.longestHarmless(0), 7);
        Checks.same("freeSlack(0)", plan.freeSlack(0), 5);
        Checks.same("freeSlack(2), which task 0 waits for", plan.freeSlack(2), 0);
        Checks.same("criticalTasks", plan.criticalTasks(), 1);
        Checks.same("delayOfPlan(2, 7)", plan.delayOfPlan(2, 7), 2);
        Checks.same("delayBySlack(2, 7)", plan.delayBySlack(2, 7), 2);
        SlackPlan apart = Checks.planOf("a2;b9");
        Checks.same("latestStart(0) of a task apart", apart.latestStart(0), 7);
        Checks.same("slack(0) of a task apart", apart.slack(0), 7);
    }

    private static void promises22To31WithoutTasks() {
        SlackPlan plan = new SlackPlan();
        Checks.same("planLength", plan.planLength(), 0);
        Checks.same("planLengthByRounds", plan.planLengthByRounds(), 0);
        Checks.same("criticalTasks", plan.criticalTasks(), 0);
        Checks.same("criticalChains", plan.criticalChains(), 0);
        Checks.refuses(plan, INDEX, "earliestStart(0)", () -> plan.earliestStart(0));
    }

    private static void promises22To31NameNoTask() {
        SlackPlan plan = house();
        for (int task : NO_TASKS) {
            Checks.refuses(plan, INDEX, "earliestStart(" + task + ")", () -> plan.earliestStart(task));
            Checks.refuses(plan, INDEX, "latestStart(" + task + ")", () -> plan.latestStart(task));
            Checks.refuses(plan, INDEX, "slack(" + task + ")", () -> plan.slack(task));
            Checks.refuses(plan, INDEX, "slackByChain(" + task + ")", () -> plan.slackByChain(task));
            Checks.refuses(plan, INDEX, "freeSlack(" + task + ")", () -> plan.freeSlack(task));
            Checks.refuses(plan, INDEX, "longestHarmless(" + task + ")", () -> plan.longestHarmless(task));
        }
    }

    private static void promises24And25AtTheLongest() {
        SlackPlan plan = new SlackPlan();
        for (int task = 0; task < 20; task++) {
            plan.addTask(30, 5);
        }
        // The last is the first, so that rounds in the order of the numbers move one task a round.
        for (int task = 19; task > 0; task--) {
            plan.depend(task, task - 1, 9);
        }
        Checks.same("planLength", plan.planLength(), 771);
        Checks.same("planLengthByRounds", plan.planLengthByRounds(), 771);
        Checks.same("earliestStart(0)", plan.earliestStart(0), 741);
        Checks.same("latestStart(19)", plan.latestStart(19), 0);
        Checks.same("slackByChain(10)", plan.slackByChain(10), 0);
        Checks.same("scheduleLength", plan.scheduleLength(), 771);
        Checks.same("crewsOn(770)", plan.crewsOn(770), 5);
        Checks.same("crewsOn(771)", plan.crewsOn(771), 0);
        Checks.same("delayOfPlan(19, 99)", plan.delayOfPlan(19, 99), 99);
        Checks.same("tasksMoved(19, 99)", plan.tasksMoved(19, 99), 19);
    }

    private static void promise28FreeSlackOfTheLast() {
        SlackPlan plan = Checks.planOf("a2;b9;c1<a3;d0<a");
        Checks.same("freeSlack(0), which d waits for", plan.freeSlack(0), 0);
        Checks.same("freeSlack(1), as long as the plan", plan.freeSlack(1), 0);
        Checks.same("freeSlack(2), up to the end of the plan", plan.freeSlack(2), 3);
        Checks.same("freeSlack(3), up to the end of the plan", plan.freeSlack(3), 7);
        plan.depend(1, 3, 0);
        Checks.same("freeSlack(0), as c would move", plan.freeSlack(0), 0);
        plan.release(0, 2);
        Checks.same("freeSlack(0), up to d", plan.freeSlack(0), 7);
        plan.depend(0, 3, 4);
        Checks.same("freeSlack(0), up to d with a lag", plan.freeSlack(0), 3);
    }

    private static void promise30CountsManyChains() {
        SlackPlan plan = new SlackPlan();
        for (int task = 0; task < 20; task++) {
            plan.addTask(2, 1);
        }
        for (int task = 0; task + 3 < 20; task += 2) {
            plan.depend(task, task + 2, 1);
            plan.depend(task, task + 3, 1);
            plan.depend(task + 1, task + 2, 1);
            plan.depend(task + 1, task + 3, 1);
        }
        Checks.same("criticalChains of ten pairs", plan.criticalChains(), 1024);
        plan.setLength(5, 1);
        Checks.same("criticalChains with one short task", plan.criticalChains(), 512);
        Checks.same("criticalTasks with one short task", plan.criticalTasks(), 19);
        SlackPlan single = Checks.planOf("a5;b5;c4;d5");
        Checks.same("criticalChains of single tasks", single.criticalChains(), 3);
    }

    private static void promise30CountsWholeChainsAlone() {
        SlackPlan empty = Checks.planOf("a0;b0<a;c0<b;d0");
        Checks.same("criticalChains of tasks without days", empty.criticalChains(), 2);
        Checks.same("criticalTasks of tasks without days", empty.criticalTasks(), 4);
        // b alone is not a chain to count, though it is critical at the end as at the beginning.
        SlackPlan tail = Checks.planOf("a5;b0<a;c0<a+b");
        Checks.same("criticalChains round a task without days", tail.criticalChains(), 2);
    }

    private static void promises32To34Delays() {
        SlackPlan plan = house();
        int[][] moved = {{0, 0, 0}, {0, 1, 5}, {1, 1, 1}, {1, 4, 1}, {1, 5, 2}, {2, 1, 3}, {3, 4, 0}, {3, 5, 1}, {5, 99, 0}};
        int[] longer = {0, 1, 0, 0, 1, 1, 0, 1, 99};
        for (int row = 0; row < moved.length; row++) {
            int task = moved[row][0];
            int days = moved[row][1];
            String asked = "(" + task + ", " + days + ")";
            Checks.same("delayOfPlan" + asked, plan.delayOfPlan(task, days), longer[row]);
            Checks.same("delayBySlack" + asked, plan.delayBySlack(task, days), longer[row]);
            Checks.same("tasksMoved" + asked, plan.tasksMoved(task, days), moved[row][2]);
        }
        Checks.same("lengthOf(5) after asking", plan.lengthOf(5), 1);
        Checks.same("planLength after asking", plan.planLength(), 17);
        Checks.same("historySize: asking is no modification", plan.historySize(), 1);
        for (int days = 0; days <= 99; days++) {
            Checks.same("delayOfPlan(1, " + days + ")", plan.delayOfPlan(1, days), Math.max(0, days - 4));
            Checks.same("delayBySlack(1, " + days + ")", plan.delayBySlack(1, days), Math.max(0, days - 4));
        }
    }

    private static void promises32To34Refuse() {
        SlackPlan plan = house();
        for (int task : NO_TASKS) {
            for (int days : new int[] {0, 99, -1, 100}) {
                Checks.refuses(plan, INDEX, "delayOfPlan without task", () -> plan.delayOfPlan(task, days));
                Checks.refuses(plan, INDEX, "delayBySlack without task", () -> plan.delayBySlack(task, days));
                Checks.refuses(plan, INDEX, "tasksMoved without task", () -> plan.tasksMoved(task, days));
            }
        }
        SlackPlan asked = house();
        for (int days : NO_DAYS) {
            Checks.refuses(asked, ARGUMENT, "delayOfPlan(0, " + days + ")", () -> asked.delayOfPlan(0, days));
            Checks.refuses(asked, ARGUMENT, "delayBySlack(0, " + days + ")", () -> asked.delayBySlack(0, days));
            Checks.refuses(asked, ARGUMENT, "tasksMoved(0, " + days + ")", () -> asked.tasksMoved(0, days));
        }
    }
}
