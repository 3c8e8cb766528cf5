/** The edges of days, slack and delays: the terms, and promises 22 to 34. */
final class DayEdges {
    private static final String NO_TASK = "Throws `IndexOutOfBoundsException` if there is no such task";
    private static final String NO_DAYS = "Throws `IllegalArgumentException` if days is out of range";

    private DayEdges() {
    }

    static void run() {
        daysFromZero();
        ends();
        earliestStarts();
        lengthOfThePlan();
        latestEnds();
        slackAndCritical();
        freeSlackOfTheTerms();
        freeSlackIsTheGreatest();
        earliestStart();
        latestStart();
        planLength();
        slack();
        slackByChain();
        freeSlack();
        criticalTasks();
        criticalChains();
        longestHarmless();
        delayOfPlan();
        delayBySlack();
        tasksMoved();
        delaysOfEveryLength();
    }

    // ---- terms

    private static void daysFromZero() {
        Document.terms("Days are numbered from 0.");
        SlackPlan plan = Plans.single();
        Checks.same("earliestStart", plan.earliestStart(0), 0);
        Checks.same("latestStart", plan.latestStart(0), 0);
        Checks.same("scheduledStart", plan.scheduledStart(0), 0);
        Checks.same("crewsOn the first day", plan.crewsOn(0), 2);
        Checks.same("crewsOn the last day", plan.crewsOn(3), 2);
        Checks.same("crewsOn the day behind", plan.crewsOn(4), 0);
        Checks.same("crewsOn the day in front", Checks.answer(() -> plan.crewsOn(-1)), "IllegalArgumentException");
    }

    private static void ends() {
        Document.terms("A task that starts on day s and has the length l ends at s + l (on this day another task can "
            + "start).");
        SlackPlan plan = Checks.planOf("a3*5;b2*5<a");
        Checks.same("earliestStart on the day of the end", plan.earliestStart(1), 3);
        Checks.same("scheduledStart on the day of the end", plan.scheduledStart(1), 3);
        Checks.same("crewsOn the last day of the first", plan.crewsOn(2), 5);
        Checks.same("crewsOn the first day of the second", plan.crewsOn(3), 5);
        Checks.same("planLength", plan.planLength(), 5);
        Checks.same("scheduleLength", plan.scheduleLength(), 5);
        SlackPlan none = Checks.planOf("a0*5;b0*5<a");
        Checks.same("earliestStart behind a task without days", none.earliestStart(1), 0);
        Checks.same("scheduledStart behind a task without days", none.scheduledStart(1), 0);
        Checks.same("planLength without days", none.planLength(), 0);
        SlackPlan beside = Checks.planOf("a30*5;b30*5");
        Checks.same("scheduledStart where crews are set free", beside.scheduledStart(1), 30);
    }

    private static void earliestStarts() {
        Document.terms("The earliest start of a task is 0 if no dependency leads to it, otherwise the greatest of the "
            + "earliest ends of the tasks from which a dependency leads to it, plus the lag.");
        SlackPlan none = Plans.twenty();
        for (int task = 0; task < 20; task++) {
            Checks.same("earliestStart without dependencies", none.earliestStart(task), 0);
        }
        Checks.same("of a task without days", Checks.planOf("a0;b1<a").earliestStart(1), 0);
        Checks.same("of two with one end", Checks.planOf("a5;b5;c1<a+b").earliestStart(2), 5);
        Checks.same("of the first, a day later", Checks.planOf("a6;b5;c1<a+b").earliestStart(2), 6);
        Checks.same("of the second, a day later", Checks.planOf("a5;b6;c1<a+b").earliestStart(2), 6);
        Checks.same("where the lag makes both the same", Checks.planOf("a5;b6;c1<a1+b").earliestStart(2), 6);
        Checks.same("where the lag decides", Checks.planOf("a5;b6;c1<a2+b").earliestStart(2), 7);
        Checks.same("of the lag alone", Checks.planOf("a0;b0;c1<a9+b8").earliestStart(2), 9);
        SlackPlan backward = Checks.planOf("a5;b6;c1");
        backward.depend(2, 0, 9);
        backward.depend(1, 0, 4);
        Checks.same("of tasks with greater numbers", backward.earliestStart(0), 10);
        Checks.same("of a task to which none leads", backward.earliestStart(1), 0);
        SlackPlan all = Plans.forty();
        for (int task = 0; task < 20; task++) {
            Checks.same("earliestStart with 40 dependencies", all.earliestStart(task), 39 * task);
        }
    }

    private static void lengthOfThePlan() {
        Document.terms("The length of the plan is the greatest earliest end of all tasks, 0 without tasks.");
        checkLength("without tasks", Plans.empty(), 0);
        checkLength("without days", Checks.planOf("a0;b0"), 0);
        checkLength("of one day", Checks.planOf("a0;b1;c0"), 1);
        checkLength("of a lag alone", Checks.planOf("a0;b0<a9"), 9);
        checkLength("of the first task", Checks.planOf("a30;b0;c29"), 30);
        checkLength("of the last task", Checks.planOf("a29;b0;c30"), 30);
        checkLength("of a task in front", Checks.planOf("a30;b1;c1<b9"), 30);
        checkLength("behind the first of two", Checks.planOf("a6;b5;c1<a+b"), 7);
        checkLength("behind the second of two", Checks.planOf("a5;b6;c1<a+b"), 7);
        checkLength("behind the greater lag", Checks.planOf("a5;b6;c1<a2+b"), 8);
        checkLength("of 20 tasks beside one another", Plans.twenty(), 19);
        checkLength("of 20 tasks behind one another", Plans.forty(), 771);
        SlackPlan shrinking = Plans.forty();
        for (int length = 771; length > 0; length = Math.max(0, length - 39)) {
            checkLength("of fewer and fewer tasks", shrinking, length);
            shrinking.removeTask();
        }
        checkLength("without tasks any more", shrinking, 0);
        SlackPlan shorter = Checks.planOf("a30;b30<a9;c30<b9");
        checkLength("of three tasks", shorter, 108);
        shorter.setLength(0, 0);
        checkLength("without the days of the first", shorter, 78);
        shorter.release(1, 2);
        checkLength("without the last dependency", shorter, 39);
        shorter.release(0, 1);
        checkLength("without dependencies", shorter, 30);
    }

    private static void checkLength(String what, SlackPlan plan, int due) {
        Checks.same("planLength " + what, plan.planLength(), due);
        Checks.same("planLengthByRounds " + what, plan.planLengthByRounds(), due);
    }

    private static void latestEnds() {
        Document.terms("The latest end of a task is the length of the plan if no dependency leads from it, otherwise "
            + "the least of the latest starts of the tasks to which a dependency leads from it, minus the lag.");
        Checks.same("of the only task", Plans.single().latestStart(0), 0);
        Checks.same("of a task beside a longer one", Checks.planOf("a2;b9").latestStart(0), 7);
        Checks.same("of a task without days", Checks.planOf("a0;b9").latestStart(0), 9);
        // b can start on 5 at the latest, and c on 5, on 4, or on 6.
        Checks.same("of two with one latest start", Checks.planOf("a1;b4<a;c4<a;d9").latestStart(0), 4);
        Checks.same("of the second, a day less", Checks.planOf("a1;b4<a;c5<a;d9").latestStart(0), 3);
        Checks.same("of the first, a day less", Checks.planOf("a1;b4<a;c3<a;d9").latestStart(0), 4);
        Checks.same("where the lag decides", Checks.planOf("a1;b4<a1;c3<a3;d9").latestStart(0), 2);
        Checks.same("where the lags make both the same", Checks.planOf("a1;b4<a1;c3<a2;d9").latestStart(0), 3);
        SlackPlan backward = Checks.planOf("a5;b6;c1");
        backward.depend(2, 0, 9);
        backward.depend(1, 0, 4);
        Checks.same("latestStart in front of a lesser number", backward.latestStart(2), 0);
        Checks.same("latestStart in front of the same", backward.latestStart(1), 0);
        SlackPlan all = Plans.forty();
        for (int task = 0; task < 20; task++) {
            Checks.same("latestStart with 40 dependencies", all.latestStart(task), 39 * task);
        }
    }

    private static void slackAndCritical() {
        Document.terms("The slack of a task is its latest start minus its earliest start; a task is critical if its "
            + "slack is 0.");
        SlackPlan plan = Checks.planOf("a5;b4;c5;d0<b");
        int[] due = {0, 1, 0, 1};
        for (int task = 0; task < 4; task++) {
            Checks.same("slack(" + task + ")", plan.slack(task), due[task]);
        }
        Checks.same("criticalTasks", plan.criticalTasks(), 2);
        Checks.same("criticalTasks where the slack becomes 0", Checks.planOf("a5;b5;c5;d0<b").criticalTasks(), 4);
        Checks.same("criticalTasks where the lag takes the slack", Checks.planOf("a5;b4;c5;d0<b1").criticalTasks(), 4);
        Checks.same("slack of the only task", Plans.single().slack(0), 0);
        Checks.same("slack of a task without days", Checks.planOf("a0;b30").slack(0), 30);
    }

    private static void freeSlackOfTheTerms() {
        Document.terms("The free slack of a task is the greatest number of days by which its earliest end could be "
            + "later without making the earliest start of any other task, or the length of the plan, greater.");
        checkFree("a5;b4", 0, 1);
        checkFree("a0;b30", 30, 0);
        checkFree("a2;b5;c1<a+b", 3, 0, 0);
        checkFree("a2;b5;c1<a2+b", 1, 0, 0);
        checkFree("a2;b5;c1<a3+b", 0, 0, 0);
        checkFree("a2;b5;c1<a+b;d9", 3, 0, 3, 0);
        checkFree("a2;b3<a;c9", 0, 4, 0);
        // Of two that follow, the one that would move first counts.
        checkFree("a1;b9;c1<a8+b;d1<a4+b", 0, 0, 0, 0);
        checkFree("a1;b9;c1<a6+b;d1<a4+b", 2, 0, 0, 0);
        checkFree("a1;b9;c1<a4+b;d1<a6+b", 2, 0, 0, 0);
        SlackPlan backward = Checks.planOf("a5;b1;c9");
        backward.depend(1, 0, 2);
        Checks.same("freeSlack in front of task 0", backward.freeSlack(1), 0);
        Checks.same("freeSlack of task 0 at the end", backward.freeSlack(0), 1);
        Checks.same("freeSlack of the only task", Plans.single().freeSlack(0), 0);
        for (int task = 0; task < 20; task++) {
            Checks.same("freeSlack of 40 dependencies", Plans.forty().freeSlack(task), 0);
            Checks.same("freeSlack of 20 single tasks", Plans.twenty().freeSlack(task), 19 - task);
        }
    }

    private static void checkFree(String text, int... due) {
        SlackPlan plan = Checks.planOf(text);
        for (int task = 0; task < due.length; task++) {
            Checks.same("freeSlack(" + task + ") of " + text, plan.freeSlack(task), due[task]);
        }
    }

    private static void freeSlackIsTheGreatest() {
        Document.terms("the greatest number of days by which its earliest end could be later without making the "
            + "earliest start of any other task, or the length of the plan, greater");
        String[] texts = {"a5;b4", "a2;b5;c1<a2+b;d9", "a3*2;b5*3<a;c2<a2;d4*2<b+c1;e6*4<c;f1*5<d+e3", "a0;b30;c0<a9"};
        for (String text : texts) {
            SlackPlan plan = Checks.planOf(text);
            for (int task = 0; task < plan.taskCount(); task++) {
                int free = plan.freeSlack(task);
                Checks.same("tasksMoved by as much in " + text, plan.tasksMoved(task, free), 0);
                Checks.same("delayOfPlan by as much in " + text, plan.delayOfPlan(task, free), 0);
                Checks.holds("one day more moves nothing in " + text,
                    plan.tasksMoved(task, free + 1) > 0 || plan.delayOfPlan(task, free + 1) > 0);
            }
        }
    }

    // ---- promises 22 to 31

    private static void earliestStart() {
        Document.promise(22, "Returns the day.");
        Checks.same("earliestStart of the only task", Plans.single().earliestStart(0), 0);
        Checks.same("earliestStart of the first of 20", Plans.forty().earliestStart(0), 0);
        Checks.same("earliestStart of the last of 20", Plans.forty().earliestStart(19), 741);
        Document.promise(22, NO_TASK);
        Arguments.noSuchTask("earliestStart", SlackPlan::earliestStart);
    }

    private static void latestStart() {
        Document.promise(23, "Returns the day.");
        Checks.same("latestStart of the only task", Plans.single().latestStart(0), 0);
        Checks.same("latestStart of the first of 20", Plans.forty().latestStart(0), 0);
        Checks.same("latestStart of the last of 20", Plans.forty().latestStart(19), 741);
        Checks.same("latestStart of a task apart from 19", apart(0).latestStart(19), 732);
        Document.promise(23, NO_TASK);
        Arguments.noSuchTask("latestStart", SlackPlan::latestStart);
    }

    /** 19 tasks one behind the other, of 732 days in all, and one task apart. */
    private static SlackPlan apart(int length) {
        SlackPlan plan = Plans.forty();
        plan.removeTask();
        plan.addTask(length, 0);
        return plan;
    }

    private static void planLength() {
        Document.promise(24, "Returns the days.");
        Checks.same("planLength of no task", Plans.empty().planLength(), 0);
        Checks.same("planLength of one task", Plans.single().planLength(), 4);
        Checks.same("planLength of the longest plan", Plans.forty().planLength(), 771);
        Document.promise(25, "Returns the days.");
        Checks.same("planLengthByRounds of no task", Plans.empty().planLengthByRounds(), 0);
        Checks.same("planLengthByRounds of one task", Plans.single().planLengthByRounds(), 4);
        Checks.same("planLengthByRounds of the longest plan", Plans.forty().planLengthByRounds(), 771);
        Document.promise(25, "found by moving starts in rounds until nothing changes");
        // Each round in the order of the numbers moves one task alone to its last place.
        SlackPlan row = Plans.backward(30, 9);
        Checks.same("planLengthByRounds of 20 rounds", row.planLengthByRounds(), 771);
        Checks.same("planLength of the same", row.planLength(), 771);
    }

    private static void slack() {
        Document.promise(26, "Returns the days.");
        Checks.same("slack of the only task", Plans.single().slack(0), 0);
        Checks.same("slack of the first of 20", Plans.forty().slack(0), 0);
        Checks.same("slack of the last of 20", Plans.forty().slack(19), 0);
        Checks.same("the greatest slack", apart(0).slack(19), 732);
        Document.promise(26, NO_TASK);
        Arguments.noSuchTask("slack", SlackPlan::slack);
    }

    private static void slackByChain() {
        Document.promise(27, "Returns the length of the plan minus the length of this chain.");
        Checks.same("slackByChain of the only task", Plans.single().slackByChain(0), 0);
        Checks.same("slackByChain of the first of 20", Plans.forty().slackByChain(0), 0);
        Checks.same("slackByChain of the last of 20", Plans.forty().slackByChain(19), 0);
        Checks.same("the greatest slackByChain", apart(0).slackByChain(19), 732);
        Checks.same("slackByChain of a task in the middle", Checks.planOf("a2;b3<a1;c4<b2;d30").slackByChain(1), 18);
        SlackPlan backward = Plans.backward(30, 9);
        for (int task = 0; task < 20; task++) {
            Checks.same("slackByChain towards lesser numbers", backward.slackByChain(task), 0);
        }
        Document.promise(27, NO_TASK);
        Arguments.noSuchTask("slackByChain", SlackPlan::slackByChain);
    }

    private static void freeSlack() {
        Document.promise(28, "Returns the days.");
        Checks.same("freeSlack of the only task", Plans.single().freeSlack(0), 0);
        Checks.same("the greatest freeSlack", apart(0).freeSlack(19), 732);
        Checks.same("freeSlack of the last of 19", apart(0).freeSlack(18), 0);
        Document.promise(28, NO_TASK);
        Arguments.noSuchTask("freeSlack", SlackPlan::freeSlack);
    }

    private static void criticalTasks() {
        Document.promise(29, "Returns the number.");
        Checks.same("criticalTasks of none", Plans.empty().criticalTasks(), 0);
        Checks.same("criticalTasks of one", Plans.single().criticalTasks(), 1);
        Checks.same("criticalTasks of all 20", Plans.forty().criticalTasks(), 20);
        Checks.same("criticalTasks of 19", apart(0).criticalTasks(), 19);
        Checks.same("criticalTasks of the longest alone", Plans.twenty().criticalTasks(), 1);
        Checks.same("criticalTasks without days", Plans.chain(0, 0, 0).criticalTasks(), 20);
    }

    private static void criticalChains() {
        Document.promise(30, "Returns the number of chains that begin with a task to which no dependency leads, end "
            + "with one from which none leads, and are as long as the plan.");
        Checks.same("criticalChains of no task", Plans.empty().criticalChains(), 0);
        Checks.same("criticalChains of one task", Plans.single().criticalChains(), 1);
        Checks.same("criticalChains of two tasks", Checks.planOf("a5;b5").criticalChains(), 2);
        Checks.same("criticalChains where one is a day too short", Checks.planOf("a5;b4").criticalChains(), 1);
        Checks.same("criticalChains with 40 lags", Plans.forty().criticalChains(), 1);
        // The end of a chain can lie on the last day, and the chain still go on.
        Checks.same("criticalChains that do not end too early", Checks.planOf("a5;b0<a;c0<b").criticalChains(), 1);
        // The start of a task can be 0, and the chain have begun in front of it.
        Checks.same("criticalChains that do not begin too late", Checks.planOf("a0;b0<a;c5<b").criticalChains(), 1);
        Checks.same("criticalChains towards lesser numbers", Plans.backward(30, 9).criticalChains(), 1);
        Document.promise(30, "Returns the number.");
        Checks.same("criticalChains of 20 tasks without days", Checks.planOf(Plans.ALL_LETTERS).criticalChains(), 20);
        // Each task's number is the sum of the two in front of it, or of three for tasks 3, 4 and 5: 1 1 2 4 7 13 20 ..
        Checks.same("criticalChains through 40 dependencies", Plans.chain(0, 0, 0).criticalChains(), 10569);
    }

    private static void longestHarmless() {
        Document.promise(31, "Returns its length plus its slack.");
        Checks.same("longestHarmless of the only task", Plans.single().longestHarmless(0), 4);
        Checks.same("longestHarmless of a critical task", Plans.forty().longestHarmless(19), 30);
        Checks.same("longestHarmless of no days", Checks.planOf("a0").longestHarmless(0), 0);
        Checks.same("the greatest longestHarmless", apart(0).longestHarmless(19), 732);
        Checks.same("longestHarmless is the same for more days", apart(30).longestHarmless(19), 732);
        Document.promise(31, NO_TASK);
        Arguments.noSuchTask("longestHarmless", SlackPlan::longestHarmless);
    }

    // ---- promises 32 to 34

    private static void delayOfPlan() {
        Document.promise(32, "- `days`: 0 to 99");
        checkDelays("delayOfPlan", SlackPlan::delayOfPlan);
        Document.promise(32, "Returns the days.");
        Checks.same("delayOfPlan of the first of 20", Plans.forty().delayOfPlan(0, 99), 99);
        Checks.same("delayOfPlan of the last of 20", Plans.forty().delayOfPlan(19, 99), 99);
        Document.promise(32, NO_TASK);
        Arguments.noSuchTask("delayOfPlan", (plan, task) -> plan.delayOfPlan(task, 0));
        Document.promise(32, NO_DAYS);
        Arguments.outOfRange(Plans::rich, "delayOfPlan", 0, 99, (plan, days) -> plan.delayOfPlan(3, days));
    }

    private static void delayBySlack() {
        Document.promise(33, "- `days`: 0 to 99");
        checkDelays("delayBySlack", SlackPlan::delayBySlack);
        Document.promise(33, "Returns the days.");
        Checks.same("delayBySlack of the first of 20", Plans.forty().delayBySlack(0, 99), 99);
        Checks.same("delayBySlack of the last of 20", Plans.forty().delayBySlack(19, 99), 99);
        Document.promise(33, NO_TASK);
        Arguments.noSuchTask("delayBySlack", (plan, task) -> plan.delayBySlack(task, 0));
        Document.promise(33, NO_DAYS);
        Arguments.outOfRange(Plans::rich, "delayBySlack", 0, 99, (plan, days) -> plan.delayBySlack(3, days));
    }

    private interface Delay {
        int find(SlackPlan plan, int task, int days);
    }

    private static void checkDelays(String name, Delay delay) {
        Checks.same(name + " of the only task by 0", delay.find(Plans.single(), 0, 0), 0);
        Checks.same(name + " of the only task by 99", delay.find(Plans.single(), 0, 99), 99);
        SlackPlan one = Checks.planOf("a5;b4");
        Checks.same(name + " by the slack of one day", delay.find(one, 1, 1), 0);
        Checks.same(name + " by one day more", delay.find(one, 1, 2), 1);
        Checks.same(name + " by 99 of slack 1", delay.find(one, 1, 99), 98);
        // The chain has 100 days, so that the slack of the task apart is 100 less its length.
        int[] dueOf99 = {0, 0, 1, 2};
        for (int length = 0; length < dueOf99.length; length++) {
            SlackPlan plan = Checks.planOf("a30;b30<a7;c30<b3;d" + length);
            Checks.same(name + " by 0 of slack 100 - " + length, delay.find(plan, 3, 0), 0);
            Checks.same(name + " by 99 of slack 100 - " + length, delay.find(plan, 3, 99), dueOf99[length]);
        }
    }

    private static void tasksMoved() {
        Document.promise(34, "- `days`: 0 to 99");
        Checks.same("tasksMoved of the first by 0", Plans.forty().tasksMoved(0, 0), 0);
        Checks.same("tasksMoved of the first by 1", Plans.forty().tasksMoved(0, 1), 19);
        Checks.same("tasksMoved of the first by 99", Plans.forty().tasksMoved(0, 99), 19);
        Document.promise(34, "Returns the number.");
        Checks.same("tasksMoved of the only task", Plans.single().tasksMoved(0, 99), 0);
        Checks.same("tasksMoved of 20 single tasks", Plans.twenty().tasksMoved(0, 99), 0);
        Checks.same("tasksMoved of the last but one", Plans.forty().tasksMoved(18, 99), 1);
        Checks.same("tasksMoved of the last one", Plans.forty().tasksMoved(19, 99), 0);
        Checks.same("tasksMoved of all lesser numbers", Plans.backward(30, 9).tasksMoved(19, 1), 19);
        Checks.same("tasksMoved of task 0 alone", Plans.backward(30, 9).tasksMoved(1, 1), 1);
        SlackPlan plan = Checks.planOf("a3;b5;c1<a+b");
        Checks.same("tasksMoved by as much as the free slack", plan.tasksMoved(0, 2), 0);
        Checks.same("tasksMoved by one day more", plan.tasksMoved(0, 3), 1);
        Document.promise(34, NO_TASK);
        Arguments.noSuchTask("tasksMoved", (any, task) -> any.tasksMoved(task, 0));
        Document.promise(34, NO_DAYS);
        Arguments.outOfRange(Plans::rich, "tasksMoved", 0, 99, (any, days) -> any.tasksMoved(3, days));
    }

    private static void delaysOfEveryLength() {
        Document.promise(33, "Returns the same, found from the slack of the task.");
        SlackPlan plan = apart(30);
        plan.depend(17, 19, 0);
        Checks.same("slack", plan.slack(19), 9);
        for (int days = 0; days <= 99; days++) {
            int due = Math.max(0, days - 9);
            Checks.same("delayOfPlan by " + days, plan.delayOfPlan(19, days), due);
            Checks.same("delayBySlack by " + days, plan.delayBySlack(19, days), due);
        }
    }
}
