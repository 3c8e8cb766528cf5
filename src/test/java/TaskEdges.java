import java.util.NoSuchElementException;

/** The edges of tasks and dependencies: the terms, and promises 1 to 7 and 16 to 21. */
final class TaskEdges {
    private static final Class<IllegalArgumentException> ARGUMENT = IllegalArgumentException.class;
    private static final Class<IllegalStateException> STATE = IllegalStateException.class;
    private static final Class<NoSuchElementException> NO_ELEMENT = NoSuchElementException.class;
    private static final String NO_TASK = "Throws `IndexOutOfBoundsException` if there is no such task";
    private static final String NO_DEPENDENCY = "Throws `NoSuchElementException` if there is no such dependency";

    private TaskEdges() {
    }

    static void run() {
        atMostTwentyTasks();
        lengthsAndCrews();
        lags();
        atMostFortyDependencies();
        oneDependencyFromATaskToAnother();
        chains();
        ahead();
        neverAheadOfItself();
        newObject();
        addTask();
        removeTask();
        setLength();
        dependAnswers();
        dependRefuses();
        release();
        setCrews();
        counts();
        lengthAndCrewsOfATask();
        lagOf();
        isAhead();
    }

    // ---- terms

    private static void atMostTwentyTasks() {
        Document.terms("There are at most 20 tasks, numbered from 0 in the order in which they were added.");
        SlackPlan plan = new SlackPlan();
        for (int task = 0; task < 20; task++) {
            Checks.same("addTask", plan.addTask(task + 7, 5 - task % 6), task);
        }
        for (int task = 0; task < 20; task++) {
            Checks.same("lengthOf(" + task + ")", plan.lengthOf(task), task + 7);
            Checks.same("crewsOf(" + task + ")", plan.crewsOf(task), 5 - task % 6);
        }
        Twins.refuses(Plans::twenty, STATE, "addTask as the 21st", full -> full.addTask(0, 0));
        plan.removeTask();
        Checks.same("addTask in the place of the last", plan.addTask(1, 1), 19);
        SlackPlan read = Checks.planOf(Plans.ALL_LETTERS);
        Checks.same("taskCount of all letters", read.taskCount(), 20);
        Twins.refuses(() -> Checks.planOf(Plans.ALL_LETTERS), STATE, "addTask behind t", full -> full.addTask(0, 0));
        SlackPlan brought = Plans.twenty();
        brought.takeSnapshot();
        brought.removeTask();
        brought.removeTask();
        brought.restoreSnapshot();
        Checks.same("addTask to 20 tasks of a snapshot", Checks.answer(() -> brought.addTask(0, 0)),
            "IllegalStateException");
        brought.undo();
        Checks.same("addTask to 18 tasks that undo brought", brought.addTask(0, 0), 18);
    }

    private static void lengthsAndCrews() {
        Document.terms("A task has a length (0 to 30 days) and needs a number of crews (0 to 5).");
        for (int length = 0; length <= 30; length++) {
            for (int crews = 0; crews <= 5; crews++) {
                SlackPlan plan = new SlackPlan();
                plan.addTask(length, crews);
                Checks.same("lengthOf", plan.lengthOf(0), length);
                Checks.same("crewsOf", plan.crewsOf(0), crews);
                Checks.same("earliest end", plan.planLength(), length);
                Checks.same("work", plan.work(), length * crews);
            }
        }
        Arguments.outOfRange(Plans::rich, "addTask", 0, 30, (plan, length) -> plan.addTask(length, 5));
        Arguments.outOfRange(Plans::rich, "addTask", 0, 5, (plan, crews) -> plan.addTask(30, crews));
        Arguments.outOfRange(Plans::rich, "setLength", 0, 30, (plan, length) -> plan.setLength(0, length));
    }

    private static void lags() {
        Document.terms("A dependency leads from one task to another one, and has a lag (0 to 9 days): the second task "
            + "can start, at the earliest, as many days after the end of the first one.");
        for (int lag = 0; lag <= 9; lag++) {
            SlackPlan plan = Checks.planOf("a3;b4");
            Checks.same("depend", plan.depend(1, 0, lag), 7 + lag);
            Checks.same("lagOf", plan.lagOf(1, 0), lag);
            Checks.same("earliestStart of the second", plan.earliestStart(0), 4 + lag);
            Checks.same("earliestStart of the first", plan.earliestStart(1), 0);
            Checks.same("latestStart of the first", plan.latestStart(1), 0);
            Checks.same("scheduledStart of the second", plan.scheduledStart(0), 4 + lag);
        }
        Arguments.outOfRange(Plans::rich, "depend", 0, 9, (plan, lag) -> plan.depend(0, 1, lag));
    }

    private static void atMostFortyDependencies() {
        Document.terms("There is at most one dependency from a task to another one, and there are at most 40 "
            + "dependencies.");
        SlackPlan plan = Plans.forty();
        Checks.same("dependencyCount", plan.dependencyCount(), 40);
        Checks.same("depend on one of the 40", plan.depend(18, 19, 0), 762);
        Checks.same("dependencyCount after a change", plan.dependencyCount(), 40);
        Twins.refuses(Plans::forty, STATE, "depend as the 41st", full -> full.depend(0, 19, 0));
        plan.release(0, 1);
        Checks.same("dependencyCount after release", plan.dependencyCount(), 39);
        Checks.same("depend as the 40th once more", plan.depend(0, 19, 0), 723);
        Checks.same("dependencyCount once more", plan.dependencyCount(), 40);
        Checks.same("depend as the 41st once more", Checks.answer(() -> plan.depend(0, 18, 0)),
            "IllegalStateException");
        plan.undo();
        Checks.same("depend as the 40th after undo", plan.depend(0, 18, 0), 723);
        Checks.same("dependencyCount after undo", plan.dependencyCount(), 40);
    }

    private static void oneDependencyFromATaskToAnother() {
        Document.terms("There is at most one dependency from a task to another one");
        SlackPlan plan = Checks.planOf("a3;b4<a2");
        plan.depend(0, 1, 5);
        plan.depend(0, 1, 5);
        Checks.same("dependencyCount", plan.dependencyCount(), 1);
        Checks.same("lagOf, the later one", plan.lagOf(0, 1), 5);
        Checks.same("release", plan.release(0, 1), 5);
        Checks.same("dependencyCount after release", plan.dependencyCount(), 0);
        Checks.same("lagOf after release", Checks.answer(() -> plan.lagOf(0, 1)), "NoSuchElementException");
        Checks.same("the other direction", plan.depend(1, 0, 1), 8);
        Checks.same("dependencyCount of the other direction", plan.dependencyCount(), 1);
    }

    private static void chains() {
        Document.terms("A chain is a sequence of tasks (a single task is one, too) in which a dependency leads from "
            + "each one to the next one; its length is the sum of the lengths of its tasks and the lags of its "
            + "dependencies.");
        Checks.same("criticalChains of a single task", Plans.single().criticalChains(), 1);
        Checks.same("slackByChain of a single task", Plans.single().slackByChain(0), 0);
        SlackPlan plan = Checks.planOf("a3;b0<a9;c20");
        Checks.same("slackByChain of a chain of two", plan.slackByChain(1), 8);
        Checks.same("slackByChain of a chain of one", plan.slackByChain(2), 0);
        Checks.same("slackByChain of the longest chain", Plans.forty().slackByChain(10), 0);
        SlackPlan beside = Plans.forty();
        beside.release(18, 19);
        beside.release(17, 19);
        Checks.same("planLength of a chain of 19 tasks", beside.planLength(), 732);
        Checks.same("slackByChain beside a chain of 19 tasks", beside.slackByChain(19), 702);
    }

    private static void ahead() {
        Document.terms("A task is ahead of another one if a chain with at least two tasks leads from it to the other "
            + "one.");
        SlackPlan two = Checks.planOf("a3;b0<a;c1<a");
        Checks.same("isAhead of two tasks", two.isAhead(0, 1), true);
        Checks.same("isAhead against the dependency", two.isAhead(1, 0), false);
        Checks.same("isAhead of two tasks behind one", two.isAhead(1, 2), false);
        Checks.same("isAhead of single tasks", Plans.twenty().isAhead(0, 19), false);
        SlackPlan all = Plans.forty();
        for (int task = 0; task < 20; task++) {
            Checks.same("isAhead of the last of 20", all.isAhead(task, 19), task < 19);
            Checks.same("isAhead of the first of 20", all.isAhead(task, 0), false);
        }
    }

    private static void neverAheadOfItself() {
        Document.terms("No task is ever ahead of itself.");
        SlackPlan all = Plans.forty();
        for (int task = 0; task < 20; task++) {
            Checks.same("isAhead of itself", all.isAhead(task, task), false);
        }
        Checks.same("isAhead of itself alone", Plans.single().isAhead(0, 0), false);
        Twins.refuses(Plans::forty, ARGUMENT, "a circle of one task", plan -> plan.depend(5, 5, 0));
        Twins.refuses(() -> Checks.planOf("a1;b1<a"), STATE, "a circle of two tasks", plan -> plan.depend(1, 0, 0));
        Twins.refuses(() -> Checks.planOf("a1;b1<a;c1<b"), STATE, "a circle of three", plan -> plan.depend(2, 0, 9));
        Twins.refuses(TaskEdges::oneRow, STATE, "a circle of 20 tasks", plan -> plan.depend(0, 19, 0));
        SlackPlan cut = oneRow();
        cut.release(10, 9);
        Checks.same("depend where the circle is cut", cut.depend(0, 19, 0), 20);
    }

    /** 20 tasks of one day, each behind the one with the next number. */
    private static SlackPlan oneRow() {
        return Plans.backward(1, 0);
    }

    // ---- promises 1 to 7

    private static void newObject() {
        Document.promise(1, "Creates a plan without tasks.");
        Checks.same("taskCount", new SlackPlan().taskCount(), 0);
        Checks.same("dependencyCount", new SlackPlan().dependencyCount(), 0);
        Checks.same("historySize", new SlackPlan().historySize(), 0);
        Checks.same("clearText", new SlackPlan().clearText(), 0);
        Checks.same("isValid", new SlackPlan().isValid(), false);
        Checks.same("firstError", new SlackPlan().firstError(), 0);
        Checks.same("takeSnapshot", new SlackPlan().takeSnapshot(), 0);
        Checks.same("planLength", new SlackPlan().planLength(), 0);
        Checks.same("planLengthByRounds", new SlackPlan().planLengthByRounds(), 0);
        Checks.same("criticalTasks", new SlackPlan().criticalTasks(), 0);
        Checks.same("criticalChains", new SlackPlan().criticalChains(), 0);
        Checks.same("crewsOn", new SlackPlan().crewsOn(0), 0);
        Checks.same("addTask", new SlackPlan().addTask(0, 0), 0);
        Twins.refuses(Plans::empty, STATE, "removeTask", SlackPlan::removeTask);
        Twins.refuses(Plans::empty, STATE, "undo", SlackPlan::undo);
        Twins.refuses(Plans::empty, STATE, "restoreSnapshot", SlackPlan::restoreSnapshot);
        Twins.refuses(Plans::empty, ARGUMENT, "readPlan", SlackPlan::readPlan);
        SlackPlan full = Plans.forty();
        Checks.same("taskCount beside a full plan", new SlackPlan().taskCount(), 0);
        Checks.same("taskCount of the full plan", full.taskCount(), 20);
    }

    private static void addTask() {
        Document.promise(2, "- `length`: 0 to 30");
        Checks.same("addTask with the least length", lengthAdded(0), 0);
        Checks.same("addTask with the greatest length", lengthAdded(30), 30);
        Document.promise(2, "- `crews`: 0 to 5");
        Checks.same("addTask with the fewest crews", crewsAdded(0), 0);
        Checks.same("addTask with the most crews", crewsAdded(5), 5);
        Document.promise(2, "Returns its number.");
        Checks.same("addTask as the first", Plans.empty().addTask(30, 5), 0);
        Checks.same("addTask as the second", Plans.single().addTask(0, 0), 1);
        SlackPlan last = Plans.twenty();
        last.removeTask();
        Checks.same("addTask as the last", last.addTask(0, 0), 19);
        Document.promise(2, "Throws `IllegalArgumentException` if an argument is out of range");
        Arguments.outOfRange(Plans::empty, "addTask", 0, 30, (plan, length) -> plan.addTask(length, 0));
        Arguments.outOfRange(Plans::empty, "addTask", 0, 5, (plan, crews) -> plan.addTask(0, crews));
        Twins.refuses(Plans::empty, ARGUMENT, "addTask(31, 6)", plan -> plan.addTask(31, 6));
        Document.promise(2, "Throws `IllegalStateException` if there are 20 tasks");
        Twins.refuses(Plans::twenty, STATE, "addTask(0, 0)", plan -> plan.addTask(0, 0));
        Twins.refuses(Plans::forty, STATE, "addTask(30, 5)", plan -> plan.addTask(30, 5));
    }

    private static int lengthAdded(int length) {
        SlackPlan plan = Plans.rich();
        return plan.lengthOf(plan.addTask(length, 5));
    }

    private static int crewsAdded(int crews) {
        SlackPlan plan = Plans.rich();
        return plan.crewsOf(plan.addTask(30, crews));
    }

    private static void removeTask() {
        Document.promise(3, "Removes the task that was added last, with its dependencies.");
        SlackPlan plan = new SlackPlan();
        for (int task = 0; task < 20; task++) {
            plan.addTask(task, 1);
        }
        for (int task = 0; task < 19; task++) {
            plan.depend(19, task, 1);
        }
        Checks.same("dependencyCount", plan.dependencyCount(), 19);
        Checks.same("removeTask of one from which 19 lead", plan.removeTask(), 0);
        Checks.same("the last task that stays", plan.lengthOf(18), 18);
        plan.addTask(19, 1);
        Checks.same("lagOf a dependency that went", Checks.answer(() -> plan.lagOf(19, 0)), "NoSuchElementException");
        for (int task = 0; task < 19; task++) {
            plan.depend(task, 19, 1);
        }
        Checks.same("removeTask of one to which 19 lead", plan.removeTask(), 0);
        Document.promise(3, "Returns the number of dependencies afterwards.");
        Checks.same("removeTask of the only task", Plans.single().removeTask(), 0);
        SlackPlan all = Plans.forty();
        int[] left = {38, 36, 34, 32};
        for (int due : left) {
            Checks.same("removeTask from 40 dependencies", all.removeTask(), due);
        }
        SlackPlan free = Plans.forty();
        free.removeTask();
        free.addTask(0, 0);
        Checks.same("removeTask of one without dependencies", free.removeTask(), 38);
        Document.promise(3, "Throws `IllegalStateException` if there are no tasks");
        Twins.refuses(Plans::empty, STATE, "removeTask", SlackPlan::removeTask);
        Twins.refuses(TaskEdges::emptied, STATE, "removeTask after the last one", SlackPlan::removeTask);
    }

    private static SlackPlan emptied() {
        SlackPlan plan = Plans.rich();
        for (int task = 0; task < 4; task++) {
            plan.removeTask();
        }
        return plan;
    }

    private static void setLength() {
        Document.promise(4, "- `length`: 0 to 30");
        SlackPlan plan = Plans.single();
        plan.setLength(0, 0);
        Checks.same("lengthOf after setLength(0, 0)", plan.lengthOf(0), 0);
        plan.setLength(0, 30);
        Checks.same("lengthOf after setLength(0, 30)", plan.lengthOf(0), 30);
        Document.promise(4, "Returns the length of the plan afterwards.");
        Checks.same("setLength of the only task to 0", Plans.single().setLength(0, 0), 0);
        Checks.same("setLength of the only task to 30", Plans.single().setLength(0, 30), 30);
        Checks.same("setLength of the first of 40", Plans.forty().setLength(0, 0), 741);
        Checks.same("setLength of the last of 40", Plans.forty().setLength(19, 0), 741);
        Checks.same("setLength to the same", Plans.forty().setLength(19, 30), 771);
        Document.promise(4, NO_TASK);
        Arguments.noSuchTask("setLength", (any, task) -> any.setLength(task, 0));
        Document.promise(4, "Throws `IllegalArgumentException` if length is out of range");
        Arguments.outOfRange(Plans::rich, "setLength", 0, 30, (any, length) -> any.setLength(3, length));
    }

    private static void dependAnswers() {
        Document.promise(5, "- `lag`: 0 to 9");
        SlackPlan plan = Checks.planOf("a3;b4");
        plan.depend(0, 1, 9);
        Checks.same("lagOf after depend with 9", plan.lagOf(0, 1), 9);
        plan.depend(0, 1, 0);
        Checks.same("lagOf after depend with 0", plan.lagOf(0, 1), 0);
        Document.promise(5, "Returns the length of the plan afterwards.");
        Checks.same("depend with the least lag", Checks.planOf("a3;b4").depend(0, 1, 0), 7);
        Checks.same("depend with the greatest lag", Checks.planOf("a3;b4").depend(0, 1, 9), 16);
        Checks.same("depend of tasks without days", Checks.planOf("a0;b0").depend(1, 0, 0), 0);
        Checks.same("depend beside a longer task", Checks.planOf("a3;b4;c20").depend(1, 0, 9), 20);
        Checks.same("depend of 40, to a lesser lag", Plans.forty().depend(0, 1, 0), 762);
        Document.promise(5, "Adds a dependency, or changes its lag if there is one.");
        SlackPlan added = Plans.twenty();
        added.depend(19, 0, 0);
        Checks.same("dependencyCount of the first one", added.dependencyCount(), 1);
        added.depend(19, 0, 9);
        Checks.same("dependencyCount after a change", added.dependencyCount(), 1);
        Checks.same("lagOf after a change", added.lagOf(19, 0), 9);
    }

    private static void dependRefuses() {
        Document.promise(5, NO_TASK);
        Arguments.noSuchTask("depend from", (plan, task) -> plan.depend(task, 0, 0));
        Arguments.noSuchTask("depend to", (plan, task) -> plan.depend(0, task, 0));
        Document.promise(5, "Throws `IllegalArgumentException` if lag is out of range, or both tasks are the same");
        Arguments.outOfRange(Plans::rich, "depend, a new one", 0, 9, (plan, lag) -> plan.depend(0, 2, lag));
        Arguments.outOfRange(Plans::rich, "depend, a changed one", 0, 9, (plan, lag) -> plan.depend(0, 1, lag));
        for (int task = 0; task < 4; task++) {
            int same = task;
            Twins.refuses(Plans::rich, ARGUMENT, "depend on itself", plan -> plan.depend(same, same, 0));
        }
        Document.promise(5, "Throws `IllegalStateException` if there are 40 dependencies and none between these tasks "
            + "in this direction, or the second task is ahead of the first one");
        Twins.refuses(Plans::forty, STATE, "depend as the 41st", plan -> plan.depend(16, 19, 0));
        Twins.refuses(Plans::forty, STATE, "depend against one of 40", plan -> plan.depend(1, 0, 0));
        Twins.refuses(Plans::rich, STATE, "depend against a dependency", plan -> plan.depend(1, 0, 0));
        Twins.refuses(Plans::rich, STATE, "depend against a chain of four", plan -> plan.depend(2, 3, 0));
        Twins.refuses(TaskEdges::thirtyNine, STATE, "depend against 39", plan -> plan.depend(18, 0, 0));
        Checks.same("depend as the 40th", thirtyNine().depend(16, 19, 0), 732);
        Checks.same("depend on the first of 40", Plans.forty().depend(0, 1, 9), 771);
        Checks.same("depend on the last of 40", Plans.forty().depend(2, 5, 0), 771);
    }

    private static SlackPlan thirtyNine() {
        SlackPlan plan = Plans.forty();
        plan.release(18, 19);
        return plan;
    }

    private static void release() {
        Document.promise(6, "Removes a dependency.");
        SlackPlan plan = Plans.forty();
        for (int from = 0; from < 19; from++) {
            plan.release(from, from + 1);
            Checks.same("dependencyCount", plan.dependencyCount(), 39 - from);
        }
        SlackPlan last = Checks.planOf("a3;b4<a9");
        last.release(0, 1);
        Checks.same("dependencyCount of none", last.dependencyCount(), 0);
        Checks.same("planLength without the dependency", last.planLength(), 4);
        Document.promise(6, "Returns its lag.");
        Checks.same("release of the least lag", Checks.planOf("a3;b4<a").release(0, 1), 0);
        Checks.same("release of the greatest lag", Checks.planOf("a3;b4<a9").release(0, 1), 9);
        Checks.same("release of one of 40", Plans.forty().release(18, 19), 9);
        Document.promise(6, NO_TASK);
        Arguments.noSuchTask("release from", (any, task) -> any.release(task, 0));
        Arguments.noSuchTask("release to", (any, task) -> any.release(0, task));
        Document.promise(6, NO_DEPENDENCY);
        Twins.refuses(Plans::single, NO_ELEMENT, "release of a task and itself", any -> any.release(0, 0));
        Twins.refuses(Plans::twenty, NO_ELEMENT, "release of none", any -> any.release(0, 19));
        Twins.refuses(Plans::rich, NO_ELEMENT, "release against a dependency", any -> any.release(1, 0));
        Twins.refuses(Plans::rich, NO_ELEMENT, "release of a longer chain", any -> any.release(0, 2));
        Twins.refuses(TaskEdges::released, NO_ELEMENT, "release once more", any -> any.release(0, 1));
    }

    private static SlackPlan released() {
        SlackPlan plan = Plans.rich();
        plan.release(0, 1);
        return plan;
    }

    private static void setCrews() {
        Document.promise(7, "- `crews`: 1 to 9");
        for (int crews = 1; crews <= 9; crews++) {
            SlackPlan plan = Plans.empty();
            plan.setCrews(crews);
            Checks.same("setCrews once more", plan.setCrews(5), crews);
        }
        Document.promise(7, "Returns the previous number.");
        SlackPlan plan = Plans.empty();
        Checks.same("setCrews of a new object", plan.setCrews(1), 5);
        Checks.same("setCrews after the least", plan.setCrews(9), 1);
        Checks.same("setCrews after the greatest", plan.setCrews(9), 9);
        Checks.same("setCrews to the same", plan.setCrews(9), 9);
        Document.promise(7, "Throws `IllegalArgumentException` if crews is out of range");
        Arguments.outOfRange(Plans::rich, "setCrews", 1, 9, (any, crews) -> any.setCrews(crews));
        Arguments.outOfRange(Plans::empty, "setCrews", 1, 9, (any, crews) -> any.setCrews(crews));
    }

    // ---- promises 16 to 21

    private static void counts() {
        Document.promise(16, "Returns the number.");
        Checks.same("taskCount of none", Plans.empty().taskCount(), 0);
        Checks.same("taskCount of one", Plans.single().taskCount(), 1);
        Checks.same("taskCount of 20", Plans.twenty().taskCount(), 20);
        Checks.same("taskCount of a written one, not read", Plans.written().taskCount(), 1);
        Document.promise(17, "Returns the number.");
        Checks.same("dependencyCount of no task", Plans.empty().dependencyCount(), 0);
        Checks.same("dependencyCount of 20 tasks", Plans.twenty().dependencyCount(), 0);
        Checks.same("dependencyCount of 40", Plans.forty().dependencyCount(), 40);
    }

    private static void lengthAndCrewsOfATask() {
        Document.promise(18, "Returns the length.");
        Checks.same("lengthOf the first", Plans.twenty().lengthOf(0), 0);
        Checks.same("lengthOf the last", Plans.twenty().lengthOf(19), 19);
        Checks.same("lengthOf the longest", Plans.forty().lengthOf(19), 30);
        Document.promise(18, NO_TASK);
        Arguments.noSuchTask("lengthOf", SlackPlan::lengthOf);
        Document.promise(19, "Returns the number.");
        Checks.same("crewsOf the first", Plans.twenty().crewsOf(0), 0);
        Checks.same("crewsOf one with the most", Plans.twenty().crewsOf(5), 5);
        Checks.same("crewsOf the last", Plans.twenty().crewsOf(19), 1);
        Checks.same("crewsOf one with more than there are", Plans.shortOfCrews().crewsOf(1), 4);
        Document.promise(19, NO_TASK);
        Arguments.noSuchTask("crewsOf", SlackPlan::crewsOf);
    }

    private static void lagOf() {
        Document.promise(20, "Returns the lag.");
        Checks.same("lagOf the least", Checks.planOf("a3;b4<a").lagOf(0, 1), 0);
        Checks.same("lagOf the greatest", Checks.planOf("a3;b4<a9").lagOf(0, 1), 9);
        Checks.same("lagOf the first of 40", Plans.forty().lagOf(0, 1), 9);
        Checks.same("lagOf the last of 40", Plans.forty().lagOf(18, 19), 9);
        Document.promise(20, NO_TASK);
        Arguments.noSuchTask("lagOf from", (plan, task) -> plan.lagOf(task, 0));
        Arguments.noSuchTask("lagOf to", (plan, task) -> plan.lagOf(0, task));
        Document.promise(20, NO_DEPENDENCY);
        Twins.refuses(Plans::single, NO_ELEMENT, "lagOf a task and itself", plan -> plan.lagOf(0, 0));
        Twins.refuses(Plans::twenty, NO_ELEMENT, "lagOf none", plan -> plan.lagOf(19, 0));
        Twins.refuses(Plans::forty, NO_ELEMENT, "lagOf against one of 40", plan -> plan.lagOf(1, 0));
        Twins.refuses(Plans::forty, NO_ELEMENT, "lagOf a longer chain", plan -> plan.lagOf(0, 19));
        Twins.refuses(TaskEdges::released, NO_ELEMENT, "lagOf a released one", plan -> plan.lagOf(0, 1));
    }

    private static void isAhead() {
        Document.promise(21, "Returns true if it is; false for the same task.");
        Checks.same("isAhead of the same task", Plans.single().isAhead(0, 0), false);
        Checks.same("isAhead of the same task, behind others", Plans.forty().isAhead(19, 19), false);
        Checks.same("isAhead of the next one", Plans.forty().isAhead(0, 1), true);
        Checks.same("isAhead of the last one", Plans.forty().isAhead(0, 19), true);
        Checks.same("isAhead of the one in front", Plans.forty().isAhead(1, 0), false);
        Checks.same("isAhead in one row of 20", oneRow().isAhead(19, 0), true);
        Checks.same("isAhead against one row of 20", oneRow().isAhead(0, 19), false);
        Document.promise(21, NO_TASK);
        Arguments.noSuchTask("isAhead of the first", (plan, task) -> plan.isAhead(task, 0));
        Arguments.noSuchTask("isAhead of the second", (plan, task) -> plan.isAhead(0, task));
        Arguments.noSuchTask("isAhead of both", (plan, task) -> plan.isAhead(task, task));
    }
}
