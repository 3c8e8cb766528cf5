import java.util.NoSuchElementException;

/** The terms of exceptions: which one comes first, and that a refused call changes nothing. */
final class RefusalEdges {
    private static final Class<IndexOutOfBoundsException> INDEX = IndexOutOfBoundsException.class;
    private static final Class<IllegalArgumentException> ARGUMENT = IllegalArgumentException.class;
    private static final Class<IllegalStateException> STATE = IllegalStateException.class;
    private static final Class<NoSuchElementException> NO_ELEMENT = NoSuchElementException.class;
    private static final String FIRST =
        "If several exceptions apply, the one that is listed first in the method's throws clause is thrown.";

    private RefusalEdges() {
    }

    static void run() {
        nothingChanges();
        refusedAgainAndAgain();
        argumentBeforeState();
        taskBeforeArgument();
        taskBeforeDependency();
        taskBeforeState();
        whichException();
    }

    private static void nothingChanges() {
        Document.terms("A method that throws an exception changes nothing.");
        Twins.Call[] calls = {plan -> plan.addTask(-1, 0), plan -> plan.addTask(0, 6), plan -> plan.setLength(4, 0),
            plan -> plan.setLength(0, 31), plan -> plan.depend(4, 0, 0), plan -> plan.depend(0, 1, 10),
            plan -> plan.depend(0, 0, 0), plan -> plan.depend(1, 0, 0), plan -> plan.release(0, 4),
            plan -> plan.release(1, 0), plan -> plan.setCrews(10), SlackPlan::readPlan, plan -> plan.lengthOf(4),
            plan -> plan.crewsOf(4), plan -> plan.lagOf(0, 4), plan -> plan.lagOf(1, 0), plan -> plan.isAhead(0, 4),
            plan -> plan.earliestStart(4), plan -> plan.latestStart(4), plan -> plan.slack(4),
            plan -> plan.slackByChain(4), plan -> plan.freeSlack(4), plan -> plan.longestHarmless(4),
            plan -> plan.delayOfPlan(4, 0), plan -> plan.delayOfPlan(0, 100), plan -> plan.delayBySlack(4, 0),
            plan -> plan.delayBySlack(0, 100), plan -> plan.tasksMoved(4, 0), plan -> plan.tasksMoved(0, 100),
            plan -> plan.scheduledStart(4), plan -> plan.crewsOn(1000)};
        for (int i = 0; i < calls.length; i++) {
            Twins.Call call = calls[i];
            String got = Checks.answer(() -> call.make(Plans.rich()));
            Checks.holds("call " + i + " answered " + got + ", due is an exception", got.endsWith("Exception"));
            Twins.changesNothing(Plans::rich, "call " + i, call);
        }
    }

    private static void refusedAgainAndAgain() {
        Document.terms("A method that throws an exception changes nothing.");
        Twins.changesNothing(Plans::forty, "many refused calls", plan -> {
            for (int time = 0; time < 20; time++) {
                Checks.answer(() -> plan.addTask(1, 1));
                Checks.answer(() -> plan.depend(0, 19, 1));
                Checks.answer(() -> plan.release(0, 19));
                Checks.answer(plan::restoreSnapshot);
                Checks.answer(plan::readPlan);
            }
            return null;
        });
        Twins.changesNothing(Plans::written, "many characters too many", plan -> {
            for (int time = 0; time < 70; time++) {
                Checks.answer(() -> plan.append('x'));
            }
            return null;
        });
        Twins.changesNothing(Plans::empty, "undo of nothing", plan -> {
            for (int time = 0; time < 70; time++) {
                Checks.answer(plan::undo);
                Checks.answer(plan::removeTask);
            }
            return null;
        });
    }

    private static void argumentBeforeState() {
        Document.terms(FIRST);
        Twins.refuses(Plans::twenty, ARGUMENT, "addTask(31, 0) to 20", plan -> plan.addTask(31, 0));
        Twins.refuses(Plans::twenty, ARGUMENT, "addTask(0, -1) to 20", plan -> plan.addTask(0, -1));
        Twins.refuses(Plans::forty, ARGUMENT, "depend of lag 10 to 40", plan -> plan.depend(0, 19, 10));
        Twins.refuses(Plans::forty, ARGUMENT, "depend of lag -1 against one of 40", plan -> plan.depend(1, 0, -1));
        Twins.refuses(Plans::forty, ARGUMENT, "depend on itself with 40", plan -> plan.depend(7, 7, 0));
        Twins.refuses(Plans::rich, ARGUMENT, "depend of lag 10 in a circle", plan -> plan.depend(1, 0, 10));
        Twins.refuses(Plans::shortOfCrews, ARGUMENT, "crewsOn(-1) without schedule", plan -> plan.crewsOn(-1));
        Twins.refuses(Plans::shortOfCrews, ARGUMENT, "crewsOn(1000) without schedule", plan -> plan.crewsOn(1000));
    }

    private static void taskBeforeArgument() {
        Document.terms(FIRST);
        for (int task : new int[] {-1, 4}) {
            for (int wrong : new int[] {-1, 100}) {
                Twins.refuses(Plans::rich, INDEX, "setLength", plan -> plan.setLength(task, wrong));
                Twins.refuses(Plans::rich, INDEX, "depend from none", plan -> plan.depend(task, 0, wrong));
                Twins.refuses(Plans::rich, INDEX, "depend to none", plan -> plan.depend(0, task, wrong));
                Twins.refuses(Plans::rich, INDEX, "delayOfPlan", plan -> plan.delayOfPlan(task, wrong));
                Twins.refuses(Plans::rich, INDEX, "delayBySlack", plan -> plan.delayBySlack(task, wrong));
                Twins.refuses(Plans::rich, INDEX, "tasksMoved", plan -> plan.tasksMoved(task, wrong));
            }
            Twins.refuses(Plans::rich, INDEX, "depend of none and itself", plan -> plan.depend(task, task, 0));
        }
        Twins.refuses(Plans::empty, INDEX, "depend of none and itself without tasks", plan -> plan.depend(0, 0, 10));
    }

    private static void taskBeforeDependency() {
        Document.terms(FIRST);
        for (int task : new int[] {-1, 4}) {
            Twins.refuses(Plans::rich, INDEX, "release from none", plan -> plan.release(task, 0));
            Twins.refuses(Plans::rich, INDEX, "release to none", plan -> plan.release(0, task));
            Twins.refuses(Plans::rich, INDEX, "release of none", plan -> plan.release(task, task));
            Twins.refuses(Plans::rich, INDEX, "lagOf from none", plan -> plan.lagOf(task, 0));
            Twins.refuses(Plans::rich, INDEX, "lagOf to none", plan -> plan.lagOf(0, task));
            Twins.refuses(Plans::rich, INDEX, "lagOf none", plan -> plan.lagOf(task, task));
        }
    }

    private static void taskBeforeState() {
        Document.terms(FIRST);
        Twins.refuses(Plans::forty, INDEX, "depend from none with 40", plan -> plan.depend(20, 0, 0));
        Twins.refuses(Plans::forty, INDEX, "depend to none with 40", plan -> plan.depend(0, 20, 0));
        Twins.refuses(Plans::shortOfCrews, INDEX, "scheduledStart(2) without schedule", plan -> plan.scheduledStart(2));
        Twins.refuses(Plans::shortOfCrews, INDEX, "scheduledStart(-1) without schedule",
            plan -> plan.scheduledStart(-1));
    }

    private static void whichException() {
        Document.terms("IndexOutOfBoundsException is thrown if there is no task with a given number; "
            + "IllegalArgumentException if another argument is out of range, or two tasks that must be different are "
            + "the same.");
        Twins.refuses(Plans::empty, INDEX, "lengthOf(0) without tasks", plan -> plan.lengthOf(0));
        Twins.refuses(Plans::single, INDEX, "lengthOf(1) of one", plan -> plan.lengthOf(1));
        Twins.refuses(Plans::forty, INDEX, "lengthOf(20) of 20", plan -> plan.lengthOf(20));
        Twins.refuses(Plans::single, ARGUMENT, "setLength(0, 31)", plan -> plan.setLength(0, 31));
        Twins.refuses(Plans::single, ARGUMENT, "depend of one task", plan -> plan.depend(0, 0, 0));
        // Elsewhere two tasks may be the same.
        Checks.same("isAhead of one task", Plans.single().isAhead(0, 0), false);
        Twins.refuses(Plans::single, NO_ELEMENT, "lagOf one task", plan -> plan.lagOf(0, 0));
        Twins.refuses(Plans::single, NO_ELEMENT, "release of one task", plan -> plan.release(0, 0));
        Twins.refuses(Plans::single, STATE, "restoreSnapshot", SlackPlan::restoreSnapshot);
    }
}
