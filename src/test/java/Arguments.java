import java.util.stream.IntStream;

/** Arguments just outside of what the document allows, and far outside, where numbers wrap round. */
final class Arguments {
    private Arguments() {
    }

    interface Call {
        Object make(SlackPlan plan, int argument);
    }

    private static int[] outside(int least, int greatest) {
        return IntStream.of(least - 1, greatest + 1, least + 256, least + 65536, least - 65536, least + (1 << 30),
            Integer.MIN_VALUE, Integer.MIN_VALUE + 1, Integer.MAX_VALUE)
            .filter(value -> value < least || value > greatest).toArray();
    }

    /** The numbers next to the first and to the last task are refused, with no task, with one, and with 20. */
    static void noSuchTask(String name, Call call) {
        Class<IndexOutOfBoundsException> due = IndexOutOfBoundsException.class;
        for (int task : outside(0, 19)) {
            Twins.refuses(Plans::forty, due, name + " of task " + task, plan -> call.make(plan, task));
        }
        for (int task : new int[] {-1, 4, 19}) {
            Twins.refuses(Plans::rich, due, name + " of task " + task + " of 4", plan -> call.make(plan, task));
        }
        Twins.refuses(Plans::single, due, name + " of task 1 of one", plan -> call.make(plan, 1));
        Twins.refuses(Plans::empty, due, name + " of task 0 of none", plan -> call.make(plan, 0));
        Twins.refuses(Arguments::withoutTheLast, due, name + " of a removed task", plan -> call.make(plan, 19));
        Twins.refuses(Arguments::undone, due, name + " of a task that is undone", plan -> call.make(plan, 0));
    }

    private static SlackPlan withoutTheLast() {
        SlackPlan plan = Plans.forty();
        plan.removeTask();
        return plan;
    }

    private static SlackPlan undone() {
        SlackPlan plan = Plans.single();
        plan.undo();
        return plan;
    }

    /** What lies next to the least and to the greatest value is refused. */
    static void outOfRange(Twins.Maker maker, String name, int least, int greatest, Call call) {
        for (int value : outside(least, greatest)) {
            Twins.refuses(maker, IllegalArgumentException.class, name + " with " + value,
                plan -> call.make(plan, value));
        }
    }
}
