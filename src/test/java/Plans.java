/** Plans at the edges: with nothing in them, or with all that can be there. */
final class Plans {
    /** A plan of 60 characters. */
    static final String SIXTY = "a3*5;b30*5<a;c30*5;d30*5;e30*5;f30*5;g30*5;h30*5;i30*5;j30*5";
    /** A plan of 20 tasks; the last place of the buffer is free. */
    static final String ALL_LETTERS = "a0;b0;c0;d0;e0;f0;g0;h0;i0;j0;k0;l0;m0;n0;o0;p0;q0;r0;s0;t0";

    private Plans() {
    }

    static SlackPlan empty() {
        return new SlackPlan();
    }

    /** One task of 4 days and 2 crews. */
    static SlackPlan single() {
        SlackPlan plan = new SlackPlan();
        plan.addTask(4, 2);
        return plan;
    }

    /** Four tasks, a full history, a snapshot and a text that is no plan, no two of which are alike. */
    static SlackPlan rich() {
        SlackPlan plan = Checks.planOf("a3*2;b4*1<a2;c5*5");
        Checks.write(plan, ";d1<");
        plan.setCrews(7);
        plan.takeSnapshot();
        plan.depend(1, 2, 3);
        plan.setLength(0, 6);
        plan.addTask(1, 0);
        plan.depend(3, 0, 9);
        plan.setCrews(6);
        return plan;
    }

    /** 20 tasks without dependencies: task t has t days and needs t % 6 crews. */
    static SlackPlan twenty() {
        SlackPlan plan = new SlackPlan();
        for (int task = 0; task < 20; task++) {
            plan.addTask(task, task % 6);
        }
        return plan;
    }

    /** 20 tasks, each of 30 days and 5 crews and 9 days behind the one in front, with 40 dependencies in all. */
    static SlackPlan forty() {
        return chain(30, 5, 9);
    }

    static SlackPlan chain(int length, int crews, int lag) {
        SlackPlan plan = new SlackPlan();
        for (int task = 0; task < 20; task++) {
            plan.addTask(length, crews);
        }
        int count = 0;
        for (int step = 1; step <= 3; step++) {
            for (int from = 0; from + step < 20 && count < 40; from++) {
                plan.depend(from, from + step, lag);
                count++;
            }
        }
        return plan;
    }

    /** 20 tasks, each behind the one with the next number, so that the last is the first. */
    static SlackPlan backward(int length, int lag) {
        SlackPlan plan = new SlackPlan();
        for (int task = 0; task < 20; task++) {
            plan.addTask(length, 1);
        }
        for (int task = 0; task < 19; task++) {
            plan.depend(task + 1, task, lag);
        }
        return plan;
    }

    /** 60 characters in the buffer, and one task. */
    static SlackPlan written() {
        SlackPlan plan = single();
        Checks.write(plan, SIXTY);
        return plan;
    }

    /** Two tasks, of which the second, without days, needs one crew more than there are. */
    static SlackPlan shortOfCrews() {
        SlackPlan plan = Checks.planOf("a4*3;b0*4");
        plan.setCrews(3);
        return plan;
    }
}
