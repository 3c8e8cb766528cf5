/** Promises 13 to 15 and 42: the history and the snapshot. */
public final class HistoryTests {
    private static final Class<IllegalStateException> STATE = IllegalStateException.class;

    public static void main(String[] args) {
        promise13Undo();
        promise13UndoDropsTheOldest();
        promise14TakeSnapshot();
        promise15RestoreSnapshot();
        promise42HistorySize();
        Checks.end();
    }

    private static void promise13Undo() {
        SlackPlan plan = new SlackPlan();
        Checks.refuses(plan, STATE, "undo of nothing", plan::undo);
        plan.addTask(3, 2);
        plan.addTask(4, 1);
        plan.depend(0, 1, 5);
        plan.setCrews(2);
        String before = Checks.picture(plan);
        plan.setLength(1, 9);
        Checks.write(plan, "a1");
        Checks.same("undo of setLength", plan.undo(), 4);
        Checks.same("clearText: the buffer is no part of a state", plan.clearText(), 2);
        plan.setLength(1, 4);
        Checks.same("the plan after undo", Checks.picture(plan).replace("history 5", "history 4"), before);
        plan.undo();
        Checks.same("undo of setCrews", plan.undo(), 3);
        Checks.same("undo of depend", plan.undo(), 2);
        Checks.same("dependencyCount", plan.dependencyCount(), 0);
        Checks.same("undo of addTask", plan.undo(), 1);
        Checks.same("undo of the first addTask", plan.undo(), 0);
        Checks.same("taskCount", plan.taskCount(), 0);
        Checks.refuses(plan, STATE, "undo behind the first", plan::undo);
        Checks.same("setCrews after all undos", plan.setCrews(3), 5);
    }

    private static void promise13UndoDropsTheOldest() {
        SlackPlan plan = new SlackPlan();
        plan.addTask(0, 0);
        for (int length = 1; length <= 13; length++) {
            plan.setLength(0, length);
            Checks.same("historySize", plan.historySize(), Math.min(5, length + 1));
        }
        for (int left = 4; left >= 0; left--) {
            Checks.same("undo", plan.undo(), left);
            Checks.same("lengthOf after undo", plan.lengthOf(0), 8 + left);
        }
        Checks.refuses(plan, STATE, "undo of a state that was dropped", plan::undo);
        plan.setLength(0, 20);
        plan.setLength(0, 21);
        Checks.same("undo after undo", plan.undo(), 1);
        plan.setLength(0, 22);
        Checks.same("undo of what came after an undo", plan.undo(), 1);
        Checks.same("lengthOf", plan.lengthOf(0), 20);
    }

    private static void promise14TakeSnapshot() {
        SlackPlan plan = Checks.planOf("a3;b4<a2");
        Checks.same("takeSnapshot", plan.takeSnapshot(), 2);
        Checks.same("historySize: takeSnapshot is no modification", plan.historySize(), 1);
        plan.addTask(5, 5);
        Checks.same("takeSnapshot again", plan.takeSnapshot(), 3);
        plan.removeTask();
        plan.removeTask();
        Checks.same("restoreSnapshot of the later one", plan.restoreSnapshot(), 3);
        Checks.same("lengthOf(2)", plan.lengthOf(2), 5);
        SlackPlan empty = new SlackPlan();
        Checks.same("takeSnapshot without tasks", empty.takeSnapshot(), 0);
        empty.addTask(1, 1);
        Checks.same("restoreSnapshot without tasks", empty.restoreSnapshot(), 0);
    }

    private static void promise15RestoreSnapshot() {
        SlackPlan plan = Checks.planOf("a3;b4*2<a2");
        Checks.refuses(plan, STATE, "restoreSnapshot without one", plan::restoreSnapshot);
        plan.setCrews(8);
        plan.takeSnapshot();
        plan.setCrews(1);
        plan.setLength(0, 9);
        plan.release(0, 1);
        plan.append(';');
        Checks.same("restoreSnapshot", plan.restoreSnapshot(), 2);
        Checks.same("lengthOf(0)", plan.lengthOf(0), 3);
        Checks.same("lagOf(0, 1)", plan.lagOf(0, 1), 2);
        Checks.same("historySize, restoreSnapshot is a modification", plan.historySize(), 5);
        Checks.same("clearText: the buffer is no part of a state", plan.clearText(), 11);
        Checks.same("setCrews after restoreSnapshot", plan.setCrews(2), 8);
        plan.setLength(0, 11);
        Checks.same("restoreSnapshot: it is kept, and as it was", plan.restoreSnapshot(), 2);
        Checks.same("lengthOf(0) again", plan.lengthOf(0), 3);
        plan.undo();
        Checks.same("lengthOf(0) after undo", plan.lengthOf(0), 11);
        plan.undo();
        plan.undo();
        plan.undo();
        Checks.same("dependencyCount after undo", plan.dependencyCount(), 0);
        Checks.same("restoreSnapshot after undo: no part of a state", plan.restoreSnapshot(), 2);
    }

    private static void promise42HistorySize() {
        SlackPlan plan = new SlackPlan();
        Checks.same("historySize of nothing", plan.historySize(), 0);
        plan.addTask(3, 1);
        Checks.same("historySize of one", plan.historySize(), 1);
        plan.setLength(0, 3);
        Checks.same("historySize: the same state counts", plan.historySize(), 2);
        Checks.refuses(plan, IllegalArgumentException.class, "setLength(0, 99)", () -> plan.setLength(0, 99));
        plan.undo();
        Checks.same("historySize after undo", plan.historySize(), 1);
        for (int i = 0; i < 9; i++) {
            plan.setCrews(5);
        }
        Checks.same("historySize at most", plan.historySize(), 5);
    }
}
