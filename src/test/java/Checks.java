/** What the tests share: comparing answers, and ending with exit code 1 if one was wrong. */
final class Checks {
    private static int done = 0;
    private static int wrong = 0;
    // What the checks that follow are for; printed with each complaint.
    private static String subject = "";

    private Checks() {
    }

    static void about(String what) {
        subject = what;
    }

    static int count() {
        return done;
    }

    static void same(String what, long got, long due) {
        note(got == due, what + " answered " + got + ", due is " + due);
    }

    static void same(String what, double got, double due) {
        note(got == due, what + " answered " + got + ", due is " + due);
    }

    static void same(String what, boolean got, boolean due) {
        note(got == due, what + " answered " + got + ", due is " + due);
    }

    static void same(String what, String got, String due) {
        note(got.equals(due), what + " answered\n  " + got + "\ndue is\n  " + due);
    }

    static void holds(String what, boolean holds) {
        note(holds, what);
    }

    /** The call must throw just this exception, and leave the plan as it was. */
    static void refuses(SlackPlan plan, Class<? extends Exception> due, String what, Runnable call) {
        String before = picture(plan);
        Class<?> got = null;
        try {
            call.run();
        } catch (Exception e) {
            got = e.getClass();
        }
        note(got == due, what + " threw " + (got == null ? "nothing" : got.getName()) + ", due is " + due.getName());
        same("after " + what + " the plan", picture(plan), before);
    }

    /** All that queries tell about a plan, as far as it shows whether something has changed. */
    static String picture(SlackPlan plan) {
        StringBuilder seen = new StringBuilder();
        int tasks = plan.taskCount();
        seen.append("history ").append(plan.historySize());
        seen.append(", dependencies ").append(plan.dependencyCount());
        seen.append(", least crews ").append(answer(() -> plan.leastCrews()));
        seen.append(", usage ").append(answer(() -> plan.usage()));
        seen.append(", schedule ").append(answer(() -> plan.scheduleLength()));
        seen.append(", first error ").append(answer(() -> plan.firstError()));
        for (int task = 0; task < tasks; task++) {
            seen.append("; ").append(plan.lengthOf(task)).append('*').append(plan.crewsOf(task));
            seen.append('@').append(plan.earliestStart(task)).append('-').append(plan.latestStart(task));
        }
        for (int from = 0; from < tasks && tasks <= 5; from++) {
            for (int to = 0; to < tasks; to++) {
                int first = from;
                int second = to;
                seen.append(' ').append(answer(() -> plan.lagOf(first, second)));
            }
        }
        return seen.toString();
    }

    interface Call {
        Object make();
    }

    /** What a call answers, or the name of what it throws. */
    static String answer(Call call) {
        try {
            return String.valueOf(call.make());
        } catch (RuntimeException e) {
            return e.getClass().getSimpleName();
        }
    }

    static void write(SlackPlan plan, String text) {
        for (int i = 0; i < text.length(); i++) {
            plan.append(text.charAt(i));
        }
    }

    static SlackPlan planOf(String text) {
        SlackPlan plan = new SlackPlan();
        write(plan, text);
        plan.readPlan();
        return plan;
    }

    static void end() {
        System.out.println(done + " checks, " + wrong + " wrong");
        if (wrong != 0) {
            System.exit(1);
        }
    }

    private static void note(boolean right, String complaint) {
        done++;
        if (!right) {
            wrong++;
            System.out.println(subject.isEmpty() ? complaint : complaint + "\n  for: " + subject);
        }
    }
}
