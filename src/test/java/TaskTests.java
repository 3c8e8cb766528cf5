import java.util.NoSuchElementException;

/** Promises 1 to 8 and 16 to 21: a new object, tasks and dependencies, and the queries about them. */
public final class TaskTests {
    private static final Class<IndexOutOfBoundsException> INDEX = IndexOutOfBoundsException.class;
    private static final Class<IllegalArgumentException> ARGUMENT = IllegalArgumentException.class;
    private static final Class<IllegalStateException> STATE = IllegalStateException.class;
    private static final Class<NoSuchElementException> NO_ELEMENT = NoSuchElementException.class;

    public static void main(String[] args) {
        promise1NewObject();
        promise2AddTask();
        promise3RemoveTask();
        promise4SetLength();
        promise5Depend();
        promise5DependKeepsToForty();
        promise6Release();
        promise7SetCrews();
        promise8ReadPlan();
        promise8ReadsEveryNumber();
        promises16And17Counts();
        promises18And19LengthAndCrews();
        promise20LagOf();
        promise21IsAhead();
        Checks.end();
    }

    private static void promise1NewObject() {
        SlackPlan plan = new SlackPlan();
        Checks.same("taskCount of a new object", plan.taskCount(), 0);
        Checks.same("dependencyCount of a new object", plan.dependencyCount(), 0);
        Checks.same("historySize of a new object", plan.historySize(), 0);
        Checks.same("planLength of a new object", plan.planLength(), 0);
        Checks.same("clearText of a new object", plan.clearText(), 0);
        Checks.refuses(plan, STATE, "restoreSnapshot of a new object", plan::restoreSnapshot);
        Checks.same("the crews of a new object", plan.setCrews(1), 5);
        SlackPlan other = new SlackPlan();
        other.addTask(1, 1);
        Checks.same("taskCount beside another object", plan.taskCount(), 0);
    }

    private static void promise2AddTask() {
        SlackPlan plan = new SlackPlan();
        Checks.refuses(plan, ARGUMENT, "addTask(-1, 0)", () -> plan.addTask(-1, 0));
        Checks.refuses(plan, ARGUMENT, "addTask(31, 0)", () -> plan.addTask(31, 0));
        Checks.refuses(plan, ARGUMENT, "addTask(0, -1)", () -> plan.addTask(0, -1));
        Checks.refuses(plan, ARGUMENT, "addTask(0, 6)", () -> plan.addTask(0, 6));
        Checks.refuses(plan, ARGUMENT, "addTask of the least ints",
            () -> plan.addTask(Integer.MIN_VALUE, Integer.MIN_VALUE));
        Checks.same("addTask(0, 0)", plan.addTask(0, 0), 0);
        Checks.same("addTask(30, 5)", plan.addTask(30, 5), 1);
        Checks.same("lengthOf(1)", plan.lengthOf(1), 30);
        Checks.same("crewsOf(1)", plan.crewsOf(1), 5);
        Checks.same("historySize after two tasks", plan.historySize(), 2);
        for (int task = 2; task < 20; task++) {
            Checks.same("addTask as number " + task, plan.addTask(task, task % 6), task);
        }
        Checks.same("lengthOf(19)", plan.lengthOf(19), 19);
        Checks.refuses(plan, STATE, "addTask as number 20", () -> plan.addTask(1, 1));
        Checks.refuses(plan, ARGUMENT, "addTask(31, 1) as number 20", () -> plan.addTask(31, 1));
        Checks.refuses(plan, ARGUMENT, "addTask(1, 6) as number 20", () -> plan.addTask(1, 6));
        plan.undo();
        Checks.same("taskCount after undo of addTask", plan.taskCount(), 19);
    }

    private static void promise3RemoveTask() {
        SlackPlan empty = new SlackPlan();
        Checks.refuses(empty, STATE, "removeTask without tasks", empty::removeTask);
        SlackPlan plan = Checks.planOf("a1;b2<a;c3<a1+b2;d4<c3");
        Checks.same("removeTask of d", plan.removeTask(), 3);
        Checks.same("removeTask of c", plan.removeTask(), 1);
        Checks.same("historySize", plan.historySize(), 3);
        Checks.same("planLength", plan.planLength(), 3);
        plan.addTask(7, 0);
        Checks.refuses(plan, NO_ELEMENT, "lagOf a dependency that went with its task", () -> plan.lagOf(0, 2));
        Checks.same("removeTask of the new c", plan.removeTask(), 1);
        Checks.same("removeTask of b", plan.removeTask(), 0);
        Checks.same("removeTask of a", plan.removeTask(), 0);
        Checks.refuses(plan, STATE, "removeTask after the last one", plan::removeTask);

        SlackPlan backward = new SlackPlan();
        backward.addTask(1, 0);
        backward.addTask(2, 0);
        backward.addTask(3, 0);
        backward.depend(2, 0, 4);
        backward.depend(2, 1, 5);
        backward.depend(1, 0, 6);
        Checks.same("removeTask of a task from which two lead", backward.removeTask(), 1);
        Checks.same("the lag that stays", backward.lagOf(1, 0), 6);
        backward.undo();
        Checks.same("dependencyCount after undo", backward.dependencyCount(), 3);
        Checks.same("lagOf(2, 1) after undo", backward.lagOf(2, 1), 5);
    }

    private static void promise4SetLength() {
        SlackPlan plan = Checks.planOf("a3;b4<a2;c5");
        Checks.same("setLength(1, 0)", plan.setLength(1, 0), 5);
        Checks.same("setLength(1, 30)", plan.setLength(1, 30), 35);
        Checks.same("setLength(0, 0)", plan.setLength(0, 0), 32);
        Checks.same("lengthOf(1)", plan.lengthOf(1), 30);
        Checks.same("historySize", plan.historySize(), 4);
        Checks.same("setLength to the same", plan.setLength(1, 30), 32);
        Checks.same("historySize after the same", plan.historySize(), 5);
        Checks.refuses(plan, INDEX, "setLength(3, 1)", () -> plan.setLength(3, 1));
        Checks.refuses(plan, INDEX, "setLength(-1, 31)", () -> plan.setLength(-1, 31));
        Checks.refuses(plan, INDEX, "setLength of the greatest task", () -> plan.setLength(Integer.MAX_VALUE, 1));
        Checks.refuses(plan, ARGUMENT, "setLength(0, 31)", () -> plan.setLength(0, 31));
        Checks.refuses(plan, ARGUMENT, "setLength(0, -1)", () -> plan.setLength(0, -1));
        plan.undo();
        plan.undo();
        Checks.same("lengthOf(0) after undo", plan.lengthOf(0), 3);
    }

    private static void promise5Depend() {
        SlackPlan plan = Checks.planOf("a3;b4;c5");
        Checks.same("depend(2, 0, 9)", plan.depend(2, 0, 9), 17);
        Checks.same("depend(0, 1, 0)", plan.depend(0, 1, 0), 21);
        Checks.same("dependencyCount", plan.dependencyCount(), 2);
        Checks.same("depend(2, 0, 1) changes the lag", plan.depend(2, 0, 1), 13);
        Checks.same("dependencyCount after a change", plan.dependencyCount(), 2);
        Checks.same("historySize", plan.historySize(), 4);
        Checks.same("depend(2, 0, 1) again", plan.depend(2, 0, 1), 13);
        Checks.same("historySize after the same", plan.historySize(), 5);
        Checks.refuses(plan, INDEX, "depend(3, 0, 0)", () -> plan.depend(3, 0, 0));
        Checks.refuses(plan, INDEX, "depend(0, 3, 0)", () -> plan.depend(0, 3, 0));
        Checks.refuses(plan, INDEX, "depend(-1, -1, 99)", () -> plan.depend(-1, -1, 99));
        Checks.refuses(plan, ARGUMENT, "depend(0, 2, 10)", () -> plan.depend(0, 2, 10));
        Checks.refuses(plan, ARGUMENT, "depend(2, 1, -1)", () -> plan.depend(2, 1, -1));
        Checks.refuses(plan, ARGUMENT, "depend(1, 1, 0)", () -> plan.depend(1, 1, 0));
        Checks.refuses(plan, STATE, "depend(0, 2, 0), one step back", () -> plan.depend(0, 2, 0));
        Checks.refuses(plan, STATE, "depend(1, 2, 0), two steps back", () -> plan.depend(1, 2, 0));
        Checks.same("depend(2, 1, 9), beside the chain", plan.depend(2, 1, 9), 18);
        plan.undo();
        plan.undo();
        plan.undo();
        Checks.same("lagOf(2, 0) after undo of a change", plan.lagOf(2, 0), 9);
    }

    private static void promise5DependKeepsToForty() {
        SlackPlan plan = new SlackPlan();
        for (int task = 0; task < 20; task++) {
            plan.addTask(1, 0);
        }
        int count = 0;
        for (int from = 0; from < 20 && count < 40; from++) {
            for (int to = from + 1; to < 20 && count < 40; to++) {
                plan.depend(from, to, 0);
                count++;
            }
        }
        Checks.same("dependencyCount of forty", plan.dependencyCount(), 40);
        Checks.refuses(plan, STATE, "depend as the 41st", () -> plan.depend(18, 19, 0));
        Checks.refuses(plan, STATE, "depend against one of forty", () -> plan.depend(1, 0, 0));
        Checks.refuses(plan, ARGUMENT, "depend(18, 19, 10) as the 41st", () -> plan.depend(18, 19, 10));
        Checks.same("depend changes one of forty", plan.depend(0, 1, 9), 13);
        Checks.same("dependencyCount after the change", plan.dependencyCount(), 40);
        plan.release(0, 1);
        Checks.same("depend in the place that is free", plan.depend(18, 19, 2), 5);
        Checks.same("dependencyCount again", plan.dependencyCount(), 40);
    }

    private static void promise6Release() {
        SlackPlan plan = Checks.planOf("a3;b4<a2;c5<a+b9");
        Checks.refuses(plan, INDEX, "release(3, 0)", () -> plan.release(3, 0));
        Checks.refuses(plan, INDEX, "release(0, -1)", () -> plan.release(0, -1));
        Checks.refuses(plan, NO_ELEMENT, "release(1, 0)", () -> plan.release(1, 0));
        Checks.refuses(plan, NO_ELEMENT, "release(1, 1)", () -> plan.release(1, 1));
        Checks.same("release(1, 2)", plan.release(1, 2), 9);
        Checks.same("release(0, 2)", plan.release(0, 2), 0);
        Checks.same("dependencyCount", plan.dependencyCount(), 1);
        Checks.same("planLength", plan.planLength(), 9);
        Checks.same("historySize", plan.historySize(), 3);
        Checks.refuses(plan, NO_ELEMENT, "release(0, 2) again", () -> plan.release(0, 2));
        plan.depend(2, 1, 3);
        Checks.same("lagOf(2, 1), the way round that was shut", plan.lagOf(2, 1), 3);
        plan.undo();
        plan.undo();
        Checks.same("lagOf(0, 2) after undo", plan.lagOf(0, 2), 0);
    }

    private static void promise7SetCrews() {
        SlackPlan plan = Checks.planOf("a3*2;b4*2");
        Checks.refuses(plan, ARGUMENT, "setCrews(0)", () -> plan.setCrews(0));
        Checks.refuses(plan, ARGUMENT, "setCrews(10)", () -> plan.setCrews(10));
        Checks.refuses(plan, ARGUMENT, "setCrews of the least int", () -> plan.setCrews(Integer.MIN_VALUE));
        Checks.same("setCrews(3)", plan.setCrews(3), 5);
        Checks.same("scheduleLength with 3 crews", plan.scheduleLength(), 7);
        Checks.same("setCrews(9)", plan.setCrews(9), 3);
        Checks.same("scheduleLength with 9 crews", plan.scheduleLength(), 4);
        Checks.same("setCrews(1)", plan.setCrews(1), 9);
        Checks.same("setCrews(1) again", plan.setCrews(1), 1);
        Checks.same("historySize", plan.historySize(), 5);
        plan.undo();
        plan.undo();
        Checks.same("setCrews(2) after undo", plan.setCrews(2), 9);
    }

    private static void promise8ReadPlan() {
        SlackPlan plan = new SlackPlan();
        plan.addTask(9, 5);
        plan.addTask(9, 5);
        plan.addTask(9, 5);
        plan.depend(2, 1, 4);
        plan.setCrews(7);
        Checks.refuses(plan, ARGUMENT, "readPlan of nothing", plan::readPlan);
        Checks.write(plan, "a30*5;b0<a7;");
        Checks.refuses(plan, ARGUMENT, "readPlan of a piece", plan::readPlan);
        Checks.write(plan, "c10*0<a+b9");
        Checks.same("readPlan", plan.readPlan(), 3);
        Checks.same("dependencyCount", plan.dependencyCount(), 3);
        Checks.same("lengthOf(0)", plan.lengthOf(0), 30);
        Checks.same("crewsOf(0)", plan.crewsOf(0), 5);
        Checks.same("lengthOf(1)", plan.lengthOf(1), 0);
        Checks.same("crewsOf(1), not written", plan.crewsOf(1), 1);
        Checks.same("lengthOf(2)", plan.lengthOf(2), 10);
        Checks.same("crewsOf(2)", plan.crewsOf(2), 0);
        Checks.same("lagOf(0, 1)", plan.lagOf(0, 1), 7);
        Checks.same("lagOf(0, 2), not written", plan.lagOf(0, 2), 0);
        Checks.same("lagOf(1, 2)", plan.lagOf(1, 2), 9);
        Checks.refuses(plan, NO_ELEMENT, "lagOf of the plan before", () -> plan.lagOf(2, 1));
        Checks.same("historySize, all five", plan.historySize(), 5);
        plan.addTask(1, 1);
        Checks.same("readPlan again, the buffer is as it was", plan.readPlan(), 3);
        Checks.same("clearText", plan.clearText(), 22);
        Checks.same("setCrews, which readPlan left alone", plan.setCrews(5), 7);
        plan.undo();
        plan.undo();
        Checks.same("taskCount after undo of readPlan", plan.taskCount(), 4);
        plan.undo();
        plan.undo();
        Checks.same("lagOf(2, 1) after undo of both", plan.lagOf(2, 1), 4);
        Checks.refuses(plan, ARGUMENT, "readPlan after clearText", plan::readPlan);
    }

    private static void promise8ReadsEveryNumber() {
        for (int number = 0; number <= 30; number++) {
            SlackPlan plan = Checks.planOf("a" + number + ";b1*" + number % 6 + "<a" + number % 10);
            Checks.same("lengthOf(0)", plan.lengthOf(0), number);
            Checks.same("crewsOf(0)", plan.crewsOf(0), 1);
            Checks.same("crewsOf(1)", plan.crewsOf(1), number % 6);
            Checks.same("lagOf(0, 1)", plan.lagOf(0, 1), number % 10);
        }
        SlackPlan all = Checks.planOf("a0;b1;c2;d3;e4;f5;g6;h7;i8;j9;k0;l1;m2;n3;o4;p5;q6;r7;s8;t9");
        Checks.same("taskCount of all letters", all.taskCount(), 20);
        for (int task = 0; task < 20; task++) {
            Checks.same("lengthOf(" + task + ")", all.lengthOf(task), task % 10);
        }
        SlackPlan wide = Checks.planOf("a0;b0;c0;d0;e0;f0;g0;h0;i0<a1+b2+c3+d4+e5+f6+g7+h8");
        Checks.same("dependencyCount of one wide task", wide.dependencyCount(), 8);
        for (int from = 0; from < 8; from++) {
            Checks.same("lagOf(" + from + ", 8)", wide.lagOf(from, 8), from + 1);
        }
    }

    private static void promises16And17Counts() {
        SlackPlan plan = Checks.planOf("a1;b1<a;c1<a+b");
        Checks.same("taskCount", plan.taskCount(), 3);
        Checks.same("dependencyCount", plan.dependencyCount(), 3);
        plan.addTask(1, 1);
        Checks.same("taskCount of four", plan.taskCount(), 4);
        plan.depend(3, 0, 0);
        Checks.same("dependencyCount of four", plan.dependencyCount(), 4);
        plan.release(0, 2);
        Checks.same("dependencyCount after release", plan.dependencyCount(), 3);
        plan.removeTask();
        Checks.same("taskCount after removeTask", plan.taskCount(), 3);
        Checks.same("dependencyCount after removeTask", plan.dependencyCount(), 2);
        Checks.same("historySize: counting is no modification", plan.historySize(), 5);
    }

    private static void promises18And19LengthAndCrews() {
        SlackPlan plan = Checks.planOf("a0*5;b30*0");
        Checks.same("lengthOf(0)", plan.lengthOf(0), 0);
        Checks.same("lengthOf(1)", plan.lengthOf(1), 30);
        Checks.same("crewsOf(0)", plan.crewsOf(0), 5);
        Checks.same("crewsOf(1)", plan.crewsOf(1), 0);
        for (int task : new int[] {-1, 2, 19, 20, Integer.MIN_VALUE, Integer.MAX_VALUE}) {
            Checks.refuses(plan, INDEX, "lengthOf(" + task + ")", () -> plan.lengthOf(task));
            Checks.refuses(plan, INDEX, "crewsOf(" + task + ")", () -> plan.crewsOf(task));
        }
    }

    private static void promise20LagOf() {
        SlackPlan plan = Checks.planOf("a1;b1<a9;c1<b");
        Checks.same("lagOf(0, 1)", plan.lagOf(0, 1), 9);
        Checks.same("lagOf(1, 2)", plan.lagOf(1, 2), 0);
        Checks.refuses(plan, NO_ELEMENT, "lagOf(0, 2)", () -> plan.lagOf(0, 2));
        Checks.refuses(plan, NO_ELEMENT, "lagOf(1, 0)", () -> plan.lagOf(1, 0));
        Checks.refuses(plan, NO_ELEMENT, "lagOf(0, 0)", () -> plan.lagOf(0, 0));
        Checks.refuses(plan, INDEX, "lagOf(3, 0)", () -> plan.lagOf(3, 0));
        Checks.refuses(plan, INDEX, "lagOf(0, 3)", () -> plan.lagOf(0, 3));
        Checks.refuses(plan, INDEX, "lagOf(-1, 0)", () -> plan.lagOf(-1, 0));
        Checks.refuses(plan, INDEX, "lagOf(0, -1)", () -> plan.lagOf(0, -1));
    }

    private static void promise21IsAhead() {
        SlackPlan plan = Checks.planOf("a1;b1<a;c1<b;d1;e1");
        plan.depend(4, 3, 0);
        plan.depend(3, 0, 0);
        int[] order = {4, 3, 0, 1, 2};
        for (int i = 0; i < 5; i++) {
            for (int j = 0; j < 5; j++) {
                Checks.same("isAhead(" + order[i] + ", " + order[j] + ")", plan.isAhead(order[i], order[j]), i < j);
            }
        }
        plan.release(3, 0);
        Checks.same("isAhead(4, 2) of a chain that is cut", plan.isAhead(4, 2), false);
        Checks.refuses(plan, INDEX, "isAhead(5, 0)", () -> plan.isAhead(5, 0));
        Checks.refuses(plan, INDEX, "isAhead(0, 5)", () -> plan.isAhead(0, 5));
        Checks.refuses(plan, INDEX, "isAhead(-1, -1)", () -> plan.isAhead(-1, -1));
    }
}
