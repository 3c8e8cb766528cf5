/** The edges of the history and of the snapshot: the terms, and promises 13 to 15 and 42. */
final class HistoryEdges {
    private static final Class<IllegalStateException> STATE = IllegalStateException.class;

    private HistoryEdges() {
    }

    static void run() {
        lastOf512Calls();
        atMostFiveStates();
        roundAndRound();
        whatAStateIs();
        whatAStateIsNot();
        modificationsRecord();
        modificationsInPromises();
        othersRecordNothing();
        undo();
        takeSnapshot();
        restoreSnapshot();
        historySize();
    }

    private static void lastOf512Calls() {
        Document.purpose("An object is used for at most 512 calls after it has been made; what later calls answer is "
            + "free.");
        SlackPlan plan = Plans.empty();
        plan.addTask(0, 1);
        for (int call = 2; call < 512; call++) {
            Checks.same("setLength as call " + call, plan.setLength(0, call % 31), call % 31);
        }
        Checks.same("undo as call 512", plan.undo(), 4);
        SlackPlan refused = Plans.single();
        for (int call = 2; call < 512; call++) {
            Checks.answer(() -> refused.addTask(31, 0));
        }
        Checks.same("planLength as call 512", refused.planLength(), 4);
        SlackPlan text = Plans.empty();
        for (int call = 1; call < 512; call++) {
            Checks.same("append or clearText", call % 61 == 0 ? text.clearText() : text.append('a'),
                call % 61 == 0 ? 60 : call % 61);
        }
        Checks.same("append as call 512", text.append('a'), 512 % 61);
    }

    // ---- terms

    /** No task at first, then a task of 0 days, and of 1, 2 and so on, up to the number of changes. */
    private static SlackPlan changed(int changes) {
        SlackPlan plan = Checks.planOf("a0");
        for (int change = 1; change <= changes; change++) {
            plan.setLength(0, change);
        }
        return plan;
    }

    private static void atMostFiveStates() {
        Document.terms("A history of at most 5 states is kept; when one more is recorded, the oldest one is dropped; "
            + "undo() removes and restores the latest one.");
        for (int changes = 0; changes <= 17; changes++) {
            SlackPlan plan = changed(changes);
            int size = Math.min(5, changes + 1);
            Checks.same("historySize after " + changes, plan.historySize(), size);
            for (int left = size - 1; left >= 0; left--) {
                Checks.same("undo after " + changes, plan.undo(), left);
                int length = changes - (size - left);
                Checks.same("lengthOf after undo", Checks.answer(() -> plan.lengthOf(0)),
                    length < 0 ? "IndexOutOfBoundsException" : String.valueOf(length));
            }
            Checks.same("undo of nothing", Checks.answer(plan::undo), "IllegalStateException");
        }
    }

    private static void roundAndRound() {
        Document.terms("when one more is recorded, the oldest one is dropped");
        for (int undos = 1; undos <= 5; undos++) {
            SlackPlan plan = changed(9);
            for (int i = 0; i < undos; i++) {
                plan.undo();
            }
            // The states left have the lengths 4 to 8 - undos, and the plan has 9 - undos.
            for (int change = 1; change <= undos + 1; change++) {
                plan.setLength(0, 20 + change);
                Checks.same("historySize", plan.historySize(), Math.min(5, 5 - undos + change));
            }
            for (int change = undos; change >= 1; change--) {
                plan.undo();
                Checks.same("lengthOf of what came later", plan.lengthOf(0), 20 + change);
            }
            for (int left = 9 - undos; left > 4; left--) {
                plan.undo();
                Checks.same("lengthOf of what came first", plan.lengthOf(0), left);
            }
            Checks.same("historySize at the end", plan.historySize(), 0);
        }
    }

    private static void whatAStateIs() {
        Document.terms("A state consists of everything but the text buffer, the history and the snapshot.");
        Checks.same("undo brings the tasks", shown(changedAll(true)), shown(Plans.forty()));
        Checks.same("restoreSnapshot brings the tasks", shown(changedAll(false)), shown(Plans.forty()));
        Checks.same("undo brings the crews", changedAll(true).setCrews(1), 5);
        Checks.same("restoreSnapshot brings the crews", changedAll(false).setCrews(1), 5);
    }

    /** 20 tasks and 40 dependencies, which were gone with the crews, and came back by undo or by the snapshot. */
    private static SlackPlan changedAll(boolean byUndo) {
        SlackPlan plan = Plans.forty();
        plan.takeSnapshot();
        Checks.write(plan, "a0*0");
        plan.setCrews(9);
        plan.release(0, 1);
        plan.depend(1, 2, 0);
        plan.setLength(3, 1);
        plan.readPlan();
        if (!byUndo) {
            plan.restoreSnapshot();
            return plan;
        }
        for (int i = 0; i < 5; i++) {
            plan.undo();
        }
        return plan;
    }

    private static String shown(SlackPlan plan) {
        StringBuilder seen = new StringBuilder();
        seen.append(plan.taskCount()).append(' ').append(plan.dependencyCount());
        for (int task = 0; task < plan.taskCount(); task++) {
            seen.append(' ').append(plan.lengthOf(task)).append('*').append(plan.crewsOf(task));
            for (int to = task + 1; to <= task + 3; to++) {
                int first = task;
                int second = to;
                seen.append(' ').append(Checks.answer(() -> plan.lagOf(first, second)));
            }
        }
        return seen.toString();
    }

    private static void whatAStateIsNot() {
        Document.terms("everything but the text buffer, the history and the snapshot");
        SlackPlan plan = Plans.single();
        Checks.write(plan, "a7");
        plan.takeSnapshot();
        plan.setLength(0, 5);
        Checks.write(plan, "*3");
        plan.undo();
        Checks.same("isValid after undo", plan.isValid(), true);
        Checks.same("clearText after undo", plan.clearText(), 4);
        plan.undo();
        Checks.same("taskCount from before the snapshot", plan.taskCount(), 0);
        Checks.same("restoreSnapshot after undo", plan.restoreSnapshot(), 1);
        Checks.same("lengthOf after restoreSnapshot", plan.lengthOf(0), 4);
        Checks.same("historySize after restoreSnapshot", plan.historySize(), 1);
        Checks.write(plan, "x");
        plan.restoreSnapshot();
        Checks.same("clearText after restoreSnapshot", plan.clearText(), 1);
        plan.undo();
        Checks.same("clearText is not undone", plan.clearText(), 0);
        SlackPlan full = changed(9);
        full.takeSnapshot();
        full.undo();
        full.undo();
        Checks.same("restoreSnapshot with three states", full.restoreSnapshot(), 1);
        Checks.same("historySize, not that of the snapshot", full.historySize(), 4);
    }

    private static void modificationsRecord() {
        Document.terms("Each method that is described as a modification records the state before it, also if the state "
            + "remains the same, unless it throws an exception.");
        Checks.same("addTask", recorded(plan -> plan.addTask(0, 0)), 1);
        Checks.same("removeTask", recorded(SlackPlan::removeTask), 1);
        Checks.same("setLength", recorded(plan -> plan.setLength(0, 5)), 1);
        Checks.same("setLength to the same", recorded(plan -> plan.setLength(0, 3)), 1);
        Checks.same("depend", recorded(plan -> plan.depend(0, 2, 0)), 1);
        Checks.same("depend on another lag", recorded(plan -> plan.depend(0, 1, 0)), 1);
        Checks.same("depend on the same lag", recorded(plan -> plan.depend(0, 1, 9)), 1);
        Checks.same("release", recorded(plan -> plan.release(0, 1)), 1);
        Checks.same("setCrews", recorded(plan -> plan.setCrews(9)), 1);
        Checks.same("setCrews to the same", recorded(plan -> plan.setCrews(5)), 1);
        Checks.same("readPlan of the same", recorded(SlackPlan::readPlan), 1);
        Checks.same("restoreSnapshot of the same", recorded(SlackPlan::restoreSnapshot), 1);
        Checks.same("addTask, refused", recorded(plan -> plan.addTask(31, 0)), 0);
        Checks.same("setLength, refused", recorded(plan -> plan.setLength(0, 31)), 0);
        Checks.same("depend, refused for the lag", recorded(plan -> plan.depend(0, 1, 10)), 0);
        Checks.same("depend, refused for a circle", recorded(plan -> plan.depend(1, 0, 0)), 0);
        Checks.same("release, refused", recorded(plan -> plan.release(1, 0)), 0);
        Checks.same("setCrews, refused", recorded(plan -> plan.setCrews(10)), 0);
    }

    private static void modificationsInPromises() {
        int[] promises = {2, 3, 4, 5, 6, 7, 8, 15};
        Twins.Call[] calls = {plan -> plan.addTask(30, 5), SlackPlan::removeTask, plan -> plan.setLength(2, 30),
            plan -> plan.depend(0, 2, 9), plan -> plan.release(0, 1), plan -> plan.setCrews(1), SlackPlan::readPlan,
            SlackPlan::restoreSnapshot};
        for (int i = 0; i < promises.length; i++) {
            Twins.Call call = calls[i];
            Document.promise(promises[i], "This is a modification.");
            Checks.same("states recorded", recorded(call), 1);
            // With the call undone, it is as if it had not been made, up to the oldest state.
            Twins.changesNothing(HistoryEdges::three, "a modification and undo", plan -> {
                call.make(plan);
                return plan.undo();
            });
            SlackPlan full = three();
            full.setCrews(5);
            full.setCrews(5);
            full.setCrews(5);
            full.setCrews(5);
            call.make(full);
            Checks.same("historySize of a full history", full.historySize(), 5);
        }
    }

    /** Three tasks and a dependency, which the text and the snapshot hold too; one state in the history. */
    private static SlackPlan three() {
        SlackPlan plan = Checks.planOf("a3;b4<a9;c5*5");
        plan.takeSnapshot();
        return plan;
    }

    private static int recorded(Twins.Call call) {
        SlackPlan plan = three();
        Checks.answer(() -> call.make(plan));
        return plan.historySize() - 1;
    }

    private static void othersRecordNothing() {
        Document.terms("Each method that is described as a modification records the state before it");
        Checks.same("append", recorded(plan -> plan.append('a')), 0);
        Checks.same("clearText", recorded(SlackPlan::clearText), 0);
        Checks.same("takeSnapshot", recorded(SlackPlan::takeSnapshot), 0);
        Checks.same("undo", recorded(SlackPlan::undo), -1);
        Twins.Call[] questions = {SlackPlan::isValid, SlackPlan::firstError, SlackPlan::taskCount,
            SlackPlan::dependencyCount, plan -> plan.lengthOf(0), plan -> plan.crewsOf(0), plan -> plan.lagOf(0, 1),
            plan -> plan.isAhead(0, 1), plan -> plan.earliestStart(1), plan -> plan.latestStart(1),
            SlackPlan::planLength, SlackPlan::planLengthByRounds, plan -> plan.slack(2), plan -> plan.slackByChain(2),
            plan -> plan.freeSlack(2), SlackPlan::criticalTasks, SlackPlan::criticalChains,
            plan -> plan.longestHarmless(2), plan -> plan.delayOfPlan(0, 99), plan -> plan.delayBySlack(0, 99),
            plan -> plan.tasksMoved(0, 99), plan -> plan.scheduledStart(1), plan -> plan.crewsOn(0),
            SlackPlan::scheduleLength, SlackPlan::work, SlackPlan::workByDays, SlackPlan::leastCrews, SlackPlan::usage,
            SlackPlan::historySize};
        for (int i = 0; i < questions.length; i++) {
            Twins.changesNothing(HistoryEdges::three, "question " + i, questions[i]);
            Twins.changesNothing(Plans::rich, "question " + i, questions[i]);
        }
    }

    // ---- promises 13 to 15, and 42

    private static void undo() {
        Document.promise(13, "Returns the number of states that remain in the history.");
        SlackPlan plan = changed(4);
        for (int left = 4; left >= 0; left--) {
            Checks.same("undo", plan.undo(), left);
        }
        Document.promise(13, "Restores the latest state of the history, and removes it from the history.");
        SlackPlan removed = changed(2);
        removed.undo();
        Checks.same("lengthOf after one undo", removed.lengthOf(0), 1);
        removed.undo();
        Checks.same("lengthOf after two, undo is not undone", removed.lengthOf(0), 0);
        Document.promise(13, "Throws `IllegalStateException` if the history is empty");
        Twins.refuses(Plans::empty, STATE, "undo of a new object", SlackPlan::undo);
        Twins.refuses(HistoryEdges::unchanged, STATE, "undo without a modification", SlackPlan::undo);
        Twins.refuses(HistoryEdges::undone, STATE, "undo after the last one", SlackPlan::undo);
    }

    private static SlackPlan unchanged() {
        SlackPlan plan = Plans.empty();
        Checks.write(plan, "a1");
        plan.takeSnapshot();
        Checks.answer(plan::removeTask);
        return plan;
    }

    private static SlackPlan undone() {
        SlackPlan plan = changed(9);
        for (int i = 0; i < 5; i++) {
            plan.undo();
        }
        return plan;
    }

    private static void takeSnapshot() {
        Document.promise(14, "Returns the number of tasks.");
        Checks.same("takeSnapshot of no task", Plans.empty().takeSnapshot(), 0);
        Checks.same("takeSnapshot of one task", Plans.single().takeSnapshot(), 1);
        Checks.same("takeSnapshot of 20 tasks", Plans.forty().takeSnapshot(), 20);
        Document.promise(14, "Takes a snapshot of the state, which replaces an earlier one.");
        SlackPlan plan = Plans.forty();
        plan.takeSnapshot();
        Checks.write(plan, "a0");
        plan.readPlan();
        plan.setCrews(9);
        plan.takeSnapshot();
        plan.undo();
        plan.undo();
        Checks.same("restoreSnapshot of the later one", plan.restoreSnapshot(), 1);
        Checks.same("dependencyCount of the later one", plan.dependencyCount(), 0);
        Checks.same("the crews of the later one", plan.setCrews(5), 9);
        SlackPlan none = Plans.forty();
        none.takeSnapshot();
        SlackPlan other = Plans.single();
        Checks.same("restoreSnapshot beside another object", Checks.answer(other::restoreSnapshot),
            "IllegalStateException");
    }

    private static void restoreSnapshot() {
        Document.promise(15, "Returns the number of tasks afterwards.");
        SlackPlan empty = Plans.empty();
        empty.takeSnapshot();
        empty.addTask(30, 5);
        Checks.same("restoreSnapshot of no task", empty.restoreSnapshot(), 0);
        Checks.same("planLength of no task", empty.planLength(), 0);
        SlackPlan full = Plans.forty();
        full.takeSnapshot();
        full.removeTask();
        Checks.same("restoreSnapshot of 20 tasks", full.restoreSnapshot(), 20);
        Checks.same("dependencyCount of 40", full.dependencyCount(), 40);
        Document.promise(15, "Restores the state of the snapshot, which is kept.");
        for (int time = 0; time < 7; time++) {
            full.setLength(time, 0);
            full.removeTask();
            Checks.same("restoreSnapshot once more", full.restoreSnapshot(), 20);
            Checks.same("planLength as it was", full.planLength(), 771);
        }
        Document.promise(15, "Throws `IllegalStateException` if there is no snapshot");
        Twins.refuses(Plans::empty, STATE, "restoreSnapshot of a new object", SlackPlan::restoreSnapshot);
        Twins.refuses(Plans::forty, STATE, "restoreSnapshot without one", SlackPlan::restoreSnapshot);
    }

    private static void historySize() {
        Document.promise(42, "Returns the number.");
        Checks.same("historySize of none", Plans.empty().historySize(), 0);
        Checks.same("historySize of one", Plans.single().historySize(), 1);
        Checks.same("historySize of four", changed(3).historySize(), 4);
        Checks.same("historySize of five", changed(4).historySize(), 5);
        Checks.same("historySize of more", changed(5).historySize(), 5);
        Checks.same("historySize of 60", Plans.forty().historySize(), 5);
        Checks.same("historySize after all undos", undone().historySize(), 0);
    }
}
