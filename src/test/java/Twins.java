/** A plan that was asked something beside a twin that was not: no later call may tell the two apart. */
final class Twins {
    private static final int UNDOS = 6;
    private static final String[] ENDS = {"", "1", "c", ";b1", "+", "*0"};

    private Twins() {
    }

    interface Maker {
        SlackPlan make();
    }

    interface Call {
        Object make(SlackPlan plan);
    }

    /** The call must throw just this exception, and change nothing that a later call shows. */
    static void refuses(Maker maker, Class<? extends Exception> due, String what, Call call) {
        Class<?> got = null;
        try {
            call.make(maker.make());
        } catch (Exception e) {
            got = e.getClass();
        }
        Checks.holds(what + " threw " + (got == null ? "nothing" : got.getName()) + ", due is " + due.getName(),
            got == due);
        changesNothing(maker, what, call);
    }

    static void changesNothing(Maker maker, String what, Call call) {
        Checks.same("after " + what + " all later calls", picture(maker, call), picture(maker, plan -> null));
    }

    private static SlackPlan asked(Maker maker, Call call) {
        SlackPlan plan = maker.make();
        Checks.answer(() -> call.make(plan));
        return plan;
    }

    /** What all later calls show; on several objects, since none is used for more than 512 calls. */
    private static String picture(Maker maker, Call call) {
        StringBuilder seen = new StringBuilder();
        for (int half = 0; half < 2; half++) {
            for (int undos = 0; undos <= UNDOS; undos++) {
                SlackPlan plan = asked(maker, call);
                for (int i = 0; i < undos; i++) {
                    seen.append("undo ").append(Checks.answer(plan::undo)).append(' ');
                }
                showState(seen, plan, half);
            }
            SlackPlan plan = asked(maker, call);
            seen.append("snapshot ").append(Checks.answer(plan::restoreSnapshot)).append(' ');
            showState(seen, plan, half);
        }
        for (String end : ENDS) {
            showText(seen, asked(maker, call), end);
        }
        showDays(seen, asked(maker, call));
        showCrews(seen, asked(maker, call));
        return seen.toString();
    }

    private static void showState(StringBuilder seen, SlackPlan plan, int half) {
        int tasks = plan.taskCount();
        seen.append(tasks).append(" tasks, ").append(plan.dependencyCount()).append(" dependencies, ");
        seen.append(plan.historySize()).append(" states:");
        for (int task = 0; task < tasks; task++) {
            seen.append(' ').append(plan.lengthOf(task)).append('*').append(plan.crewsOf(task));
        }
        for (int from = half * 10; from < half * 10 + 10 && from < tasks; from++) {
            for (int to = 0; to < tasks; to++) {
                int first = from;
                int second = to;
                String lag = Checks.answer(() -> plan.lagOf(first, second));
                if (!lag.equals("NoSuchElementException")) {
                    seen.append(' ').append(from).append('-').append(to).append(':').append(lag);
                }
            }
        }
        seen.append(", crews ").append(plan.setCrews(1)).append('\n');
    }

    private static void showText(StringBuilder seen, SlackPlan plan, String end) {
        for (char sign : end.toCharArray()) {
            seen.append(Checks.answer(() -> plan.append(sign))).append(' ');
        }
        seen.append("valid ").append(plan.isValid()).append(" error ").append(Checks.answer(plan::firstError));
        seen.append(" read ").append(Checks.answer(plan::readPlan)).append(' ');
        showState(seen, plan, 0);
        seen.append("length ").append(plan.clearText()).append('\n');
    }

    private static void showDays(StringBuilder seen, SlackPlan plan) {
        seen.append(plan.planLength()).append(" days, by rounds ").append(plan.planLengthByRounds());
        seen.append(", critical ").append(plan.criticalTasks()).append(' ').append(plan.criticalChains());
        for (int task = 0; task < plan.taskCount(); task++) {
            seen.append("; ").append(plan.earliestStart(task)).append('-').append(plan.latestStart(task));
            seen.append(' ').append(plan.slackByChain(task)).append(' ').append(plan.freeSlack(task));
            seen.append(' ').append(plan.delayOfPlan(task, 50)).append(' ').append(plan.tasksMoved(task, 50));
        }
        seen.append('\n');
    }

    private static void showCrews(StringBuilder seen, SlackPlan plan) {
        seen.append("schedule ").append(Checks.answer(plan::scheduleLength));
        seen.append(" usage ").append(Checks.answer(plan::usage));
        seen.append(" least ").append(Checks.answer(plan::leastCrews));
        for (int task = 0; task < plan.taskCount(); task++) {
            int asked = task;
            seen.append(' ').append(Checks.answer(() -> plan.scheduledStart(asked)));
        }
        for (int day = 0; day < 100; day++) {
            int asked = day;
            seen.append(' ').append(Checks.answer(() -> plan.crewsOn(asked)));
        }
        seen.append('\n');
    }
}
