import java.util.NoSuchElementException;

/** Promises 35 to 41: the schedule with limited crews. */
public final class CrewTests {
    private static final Class<IndexOutOfBoundsException> INDEX = IndexOutOfBoundsException.class;
    private static final Class<IllegalArgumentException> ARGUMENT = IllegalArgumentException.class;
    private static final Class<IllegalStateException> STATE = IllegalStateException.class;
    private static final Class<NoSuchElementException> NO_ELEMENT = NoSuchElementException.class;

    public static void main(String[] args) {
        promises35To41OfOneHouse();
        promise35TakesTheLeastLatestStart();
        promise35TakesTheLowestNumber();
        promise35FillsGapsInFront();
        promise35TasksWithoutDaysOrCrews();
        promise35Refuses();
        promise36Refuses();
        promises37To41WithoutTasks();
        promises35To41WithoutSchedule();
        promise40LeastCrews();
        promise41Usage();
        Checks.end();
    }

    private static void checkStarts(SlackPlan plan, int... due) {
        for (int task = 0; task < due.length; task++) {
            Checks.same("scheduledStart(" + task + ")", plan.scheduledStart(task), due[task]);
        }
    }

    private static void promises35To41OfOneHouse() {
        SlackPlan plan = Checks.planOf("a3*2;b5*3<a;c2<a2;d4*2<b+c1;e6*4<c;f1*5<d+e3");
        checkStarts(plan, 0, 3, 5, 14, 8, 18);
        int[] working = {2, 2, 2, 3, 3, 4, 4, 3, 4, 4, 4, 4, 4, 4, 2, 2, 2, 2, 5, 0, 0};
        for (int day = 0; day < working.length; day++) {
            Checks.same("crewsOn(" + day + ")", plan.crewsOn(day), working[day]);
        }
        Checks.same("crewsOn(999)", plan.crewsOn(999), 0);
        Checks.same("scheduleLength", plan.scheduleLength(), 19);
        Checks.same("work", plan.work(), 60);
        Checks.same("workByDays", plan.workByDays(), 60);
        Checks.same("leastCrews", plan.leastCrews(), 7);
        Checks.same("usage", plan.usage(), 60.0 / 95);
        Checks.same("historySize: asking is no modification", plan.historySize(), 1);
        plan.setCrews(9);
        checkStarts(plan, 0, 3, 5, 8, 7, 16);
        Checks.same("crewsOn(7) with 9 crews", plan.crewsOn(7), 7);
    }

    /** c is taken first, as it has the least latest start, and not b, although b has the lower number. */
    private static void promise35TakesTheLeastLatestStart() {
        SlackPlan plan = Checks.planOf("a1*5;b2*5<a;c9*5<a;d1<c");
        checkStarts(plan, 0, 10, 1, 12);
        Checks.same("scheduleLength", plan.scheduleLength(), 13);
        // The latest start counts and not the slack: b has the slack 5 and the latest start 5, c 1 and 6.
        SlackPlan other = Checks.planOf("a10;b5*5;c4*5;d5");
        other.depend(3, 2, 0);
        Checks.same("latestStart(1)", other.latestStart(1), 5);
        Checks.same("latestStart(2)", other.latestStart(2), 6);
        other.setCrews(6);
        Checks.same("scheduledStart(1)", other.scheduledStart(1), 5);
        Checks.same("scheduledStart(2)", other.scheduledStart(2), 10);
    }

    private static void promise35TakesTheLowestNumber() {
        SlackPlan plan = Checks.planOf("a2*3;b2*3;c2*3");
        checkStarts(plan, 0, 2, 4);
        Checks.same("scheduleLength", plan.scheduleLength(), 6);
    }

    /** c is taken last, and still finds a place in front of b. */
    private static void promise35FillsGapsInFront() {
        SlackPlan plan = Checks.planOf("a2*5;b5*5<a3;c3*5;d4*5");
        Checks.same("latestStart(2)", plan.latestStart(2), 7);
        checkStarts(plan, 0, 5, 2, 10);
        // Room is left beside others too, as long as the crews suffice.
        SlackPlan shared = Checks.planOf("a2*3;b5*3<a3;c9*2;d3*3");
        checkStarts(shared, 0, 5, 0, 2);
    }

    private static void promise35TasksWithoutDaysOrCrews() {
        SlackPlan plan = Checks.planOf("a4*5;b0*5;c3*0;d0<a2");
        checkStarts(plan, 0, 0, 0, 6);
        Checks.same("crewsOn(0)", plan.crewsOn(0), 5);
        Checks.same("crewsOn(3)", plan.crewsOn(3), 5);
        Checks.same("crewsOn(4)", plan.crewsOn(4), 0);
        Checks.same("scheduleLength", plan.scheduleLength(), 6);
        Checks.same("workByDays", plan.workByDays(), 20);
    }

    private static void promise35Refuses() {
        SlackPlan plan = Checks.planOf("a4*5;b1");
        for (int task : new int[] {-1, 2, 20, Integer.MIN_VALUE, Integer.MAX_VALUE}) {
            Checks.refuses(plan, INDEX, "scheduledStart(" + task + ")", () -> plan.scheduledStart(task));
        }
        plan.setCrews(4);
        Checks.refuses(plan, INDEX, "scheduledStart(2) without schedule", () -> plan.scheduledStart(2));
        Checks.refuses(plan, STATE, "scheduledStart(0) without schedule", () -> plan.scheduledStart(0));
        Checks.refuses(plan, STATE, "scheduledStart(1) without schedule", () -> plan.scheduledStart(1));
    }

    private static void promise36Refuses() {
        SlackPlan plan = Checks.planOf("a4*5");
        for (int day : new int[] {-1, 1000, Integer.MIN_VALUE, Integer.MAX_VALUE}) {
            Checks.refuses(plan, ARGUMENT, "crewsOn(" + day + ")", () -> plan.crewsOn(day));
        }
        plan.setCrews(4);
        Checks.refuses(plan, ARGUMENT, "crewsOn(-1) without schedule", () -> plan.crewsOn(-1));
        Checks.refuses(plan, STATE, "crewsOn(0) without schedule", () -> plan.crewsOn(0));
        Checks.refuses(plan, STATE, "crewsOn(999) without schedule", () -> plan.crewsOn(999));
    }

    private static void promises37To41WithoutTasks() {
        SlackPlan plan = new SlackPlan();
        Checks.same("crewsOn(0)", plan.crewsOn(0), 0);
        Checks.same("crewsOn(999)", plan.crewsOn(999), 0);
        Checks.same("scheduleLength", plan.scheduleLength(), 0);
        Checks.same("work", plan.work(), 0);
        Checks.same("workByDays", plan.workByDays(), 0);
        Checks.same("leastCrews", plan.leastCrews(), 1);
        Checks.same("usage", plan.usage(), 0.0);
    }

    private static void promises35To41WithoutSchedule() {
        SlackPlan plan = Checks.planOf("a1;b0*5");
        plan.setCrews(4);
        Checks.refuses(plan, STATE, "scheduleLength without schedule", plan::scheduleLength);
        Checks.refuses(plan, STATE, "workByDays without schedule", plan::workByDays);
        Checks.refuses(plan, STATE, "usage without schedule", plan::usage);
        Checks.same("work without schedule", plan.work(), 1);
        Checks.same("leastCrews without schedule", plan.leastCrews(), 5);
        plan.setCrews(5);
        Checks.same("scheduleLength with just enough", plan.scheduleLength(), 1);
    }

    private static void promise40LeastCrews() {
        Checks.same("leastCrews of none", Checks.planOf("a4*0;b3*0").leastCrews(), 1);
        Checks.same("leastCrews of nine", Checks.planOf("a4*5;b4*4").leastCrews(), 9);
        Checks.same("leastCrews of one after the other", Checks.planOf("a4*2;b4*2<a").leastCrews(), 2);
        SlackPlan plan = Checks.planOf("a4*5;b4*5");
        Checks.refuses(plan, NO_ELEMENT, "leastCrews of ten", plan::leastCrews);
        Checks.same("setCrews, which leastCrews left alone", plan.setCrews(1), 5);
        Checks.same("historySize: leastCrews is no modification", plan.historySize(), 2);
    }

    private static void promise41Usage() {
        SlackPlan plan = Checks.planOf("a3*1;b4*2<a");
        Checks.same("usage", plan.usage(), 11.0 / 35);
        plan.setCrews(2);
        Checks.same("usage with 2 crews", plan.usage(), 11.0 / 14);
        Checks.same("usage of tasks without days", Checks.planOf("a0*5;b0*5").usage(), 0.0);
        Checks.same("usage of tasks without crews", Checks.planOf("a5*0").usage(), 0.0);
        Checks.same("usage of all", Checks.planOf("a30*5;b30*5<a").usage(), 1.0);
    }
}
