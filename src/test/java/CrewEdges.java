import java.util.NoSuchElementException;

/** The edges of crews and of the schedule: the terms, and promises 35 to 41. */
final class CrewEdges {
    private static final Class<IllegalStateException> STATE = IllegalStateException.class;
    private static final String NO_TASK = "Throws `IndexOutOfBoundsException` if there is no such task";
    private static final String NO_SCHEDULE = "Throws `IllegalStateException` if there is no schedule";

    private CrewEdges() {
    }

    static void run() {
        numberOfCrews();
        leastLatestStart();
        lowestNumber();
        onlyAfterAllAhead();
        notBeforeTheEnds();
        crewsSuffice();
        wholeSchedule();
        tooFewCrews();
        scheduledStart();
        crewsOn();
        scheduleLength();
        work();
        workByDays();
        leastCrews();
        usage();
    }

    private static void checkStarts(String what, SlackPlan plan, int... due) {
        for (int task = 0; task < due.length; task++) {
            Checks.same("scheduledStart(" + task + ") " + what, plan.scheduledStart(task), due[task]);
        }
    }

    private static SlackPlan withCrews(String text, int crews) {
        SlackPlan plan = Checks.planOf(text);
        plan.setCrews(crews);
        return plan;
    }

    // ---- terms

    private static void numberOfCrews() {
        Document.terms("There is a number of crews (1 to 9; 5 at the beginning).");
        Checks.same("setCrews of a new object", Plans.empty().setCrews(9), 5);
        checkStarts("with the crews of the beginning", Checks.planOf("a4*3;b4*2;c4*1"), 0, 0, 4);
        checkStarts("with one crew", withCrews("a4*1;b4*1", 1), 0, 4);
        checkStarts("with nine crews", withCrews("a4*5;b4*4;c4*1", 9), 0, 0, 4);
        SlackPlan read = Plans.empty();
        read.setCrews(1);
        Checks.write(read, "a4;b4");
        read.readPlan();
        checkStarts("after readPlan, with one crew", read, 0, 4);
        Arguments.outOfRange(Plans::single, "setCrews", 1, 9, (plan, crews) -> plan.setCrews(crews));
    }

    private static void leastLatestStart() {
        Document.terms("it takes the one with the least latest start");
        checkStarts("a day less", Checks.planOf("a4*5;b4*5;c5*5;d20*0"), 5, 9, 0);
        checkStarts("the last first", Checks.planOf("a3*5;b4*5;c5*5;d20*0"), 9, 5, 0);
        checkStarts("a lag behind", Checks.planOf("a4*5;b4*5;c0<b1;d20*0"), 4, 0, 5);
        // The latest start decides and not the earliest one, nor the length, nor the slack.
        SlackPlan later = Checks.planOf("a10;b5*5;c4*5;d5");
        later.depend(3, 2, 0);
        later.setCrews(6);
        Checks.same("scheduledStart(1) of latest start 5, slack 5", later.scheduledStart(1), 5);
        Checks.same("scheduledStart(2) of latest start 6, slack 1", later.scheduledStart(2), 10);
    }

    private static void lowestNumber() {
        Document.terms("of several the one with the lowest number");
        checkStarts("of three with one latest start", Checks.planOf("a4*5;b4*5;c4*5"), 0, 4, 8);
        checkStarts("of two with one latest start", Checks.planOf("a4*5;b6*5;c4*5;d4*5<b"), 6, 0, 10, 14);
        SlackPlan all = Checks.planOf(Plans.ALL_LETTERS);
        for (int task = 0; task < 20; task++) {
            Checks.same("scheduledStart of 20 without days", all.scheduledStart(task), 0);
        }
        SlackPlan twenty = Plans.empty();
        for (int task = 0; task < 20; task++) {
            twenty.addTask(30, 5);
        }
        for (int task = 0; task < 20; task++) {
            Checks.same("scheduledStart of 20 of the same", twenty.scheduledStart(task), 30 * task);
        }
    }

    private static void onlyAfterAllAhead() {
        Document.terms("of the tasks without a start for which all tasks ahead of them have one");
        // All have the latest start 0, and task 0 comes last, since task 2 is ahead of it.
        SlackPlan plan = Checks.planOf("a3*5;b3*5;c0*5");
        plan.depend(2, 0, 0);
        checkStarts("behind a task without days", plan, 3, 0, 0);
        // Task 0 waits for tasks 2 and 3 both; a, c and d have one latest start, and c gets its start before d.
        SlackPlan both = Checks.planOf("a1*0;b4*5;c0*5;d0*5;e3*5");
        both.depend(2, 0, 0);
        both.depend(3, 0, 0);
        both.depend(4, 3, 0);
        checkStarts("behind two tasks without days", both, 7, 0, 0, 7, 4);
    }

    private static void notBeforeTheEnds() {
        Document.terms("gives it the least start that is not less than the ends, by the schedule, of the tasks from "
            + "which dependencies lead to it, plus the lags");
        checkStarts("on the day of the end", Checks.planOf("a3*2;b2*2<a"), 0, 3);
        checkStarts("one day behind it", Checks.planOf("a3*2;b2*2<a1"), 0, 4);
        checkStarts("nine days behind it", Checks.planOf("a3*2;b2*2<a9"), 0, 12);
        checkStarts("behind the later of two", Checks.planOf("a3*1;b4*1;c1*1<a1+b"), 0, 0, 4);
        checkStarts("behind the greater lag", Checks.planOf("a3*1;b4*1;c1*1<a2+b"), 0, 0, 5);
        // The end by the schedule counts: b waits for a's crews.
        checkStarts("behind a task that waits", Checks.planOf("a6*5;b3*5;c1*1<b2"), 0, 6, 11);
        checkStarts("from the first day", Checks.planOf("a0*0"), 0);
    }

    private static void crewsSuffice() {
        Document.terms("on whose days (from its start up to the day before its end) the crews suffice for it together "
            + "with all tasks that have a start");
        checkStarts("with just enough crews", Checks.planOf("a4*3;b4*2"), 0, 0);
        checkStarts("with one crew too few", Checks.planOf("a4*3;b4*3"), 0, 4);
        checkStarts("with just enough for three", withCrews("a4*4;b4*3;c4*2", 9), 0, 0, 0);
        checkStarts("with one too few for three", withCrews("a4*4;b4*3;c4*3", 9), 0, 0, 4);
        checkStarts("without crews", Checks.planOf("a4*5;b4*0;c4*0"), 0, 0, 0);
        checkStarts("without days", Checks.planOf("a4*5;b0*5;c0*5<b2"), 0, 0, 2);
        // The gap from 2 to 5 holds three days, and not four.
        checkStarts("in a gap of just enough days", Checks.planOf("a2*5;b5*5<a3;c3*5"), 0, 5, 2);
        checkStarts("in a gap of one day too few", Checks.planOf("a2*5;b5*5<a3;c4*5"), 0, 5, 10);
        SlackPlan gap = Checks.planOf("a2*5;b5*5<a3;c3*5;d4*5");
        checkStarts("with two behind the gap", gap, 0, 5, 2, 10);
        // Each day of a task counts, the first and the last one too.
        checkStarts("short of crews on the first day", Checks.planOf("a1*5;b9*1<a;c5*4"), 0, 1, 1);
        checkStarts("short of crews on the last day", Checks.planOf("a2*2;b9*3<a3;c6*3"), 0, 5, 14);
        checkStarts("short of crews behind the last day", Checks.planOf("a2*2;b9*3<a3;c5*3"), 0, 5, 0);
    }

    private static void wholeSchedule() {
        Document.terms("The schedule gives each task a start: again and again, of the tasks without a start for which "
            + "all tasks ahead of them have one, it takes the one with the least latest start, of several the one with "
            + "the lowest number, and gives it the least start that is not less than the ends, by the schedule, of the "
            + "tasks from which dependencies lead to it, plus the lags, and on whose days (from its start up to the "
            + "day before its end) the crews suffice for it together with all tasks that have a start.");
        SlackPlan all = Plans.forty();
        for (int task = 0; task < 20; task++) {
            Checks.same("scheduledStart with 40 dependencies", all.scheduledStart(task), 39 * task);
        }
        for (int day = 731; day < 790; day++) {
            Checks.same("crewsOn(" + day + ")", all.crewsOn(day), day == 731 || day >= 741 && day < 771 ? 5 : 0);
        }
        // Without the dependencies the 20 tasks have no day to wait for.
        SlackPlan free = Plans.empty();
        for (int task = 0; task < 20; task++) {
            free.addTask(30, 3);
        }
        Checks.same("scheduleLength of 20 tasks, one at a time", free.scheduleLength(), 600);
        free.setCrews(6);
        Checks.same("scheduleLength of 20 tasks, two at a time", free.scheduleLength(), 300);
        free.setCrews(9);
        Checks.same("scheduleLength of 20 tasks, three at a time", free.scheduleLength(), 210);
    }

    private static void tooFewCrews() {
        Document.terms("A task that needs more crews than there are cannot be scheduled (also if its length is 0); "
            + "then there is no schedule.");
        for (int crews = 1; crews <= 5; crews++) {
            Checks.same("scheduleLength with just enough", withCrews("a0*" + crews, crews).scheduleLength(), 0);
            Checks.same("scheduleLength with just enough", withCrews("a9*" + crews, crews).scheduleLength(), 9);
        }
        for (int crews = 1; crews <= 4; crews++) {
            SlackPlan none = withCrews("a4*1;b0*" + (crews + 1), crews);
            checkNoSchedule(none);
            SlackPlan some = withCrews("a4*1;b9*" + (crews + 1), crews);
            checkNoSchedule(some);
            some.setCrews(crews + 1);
            Checks.same("scheduleLength with one crew more", some.scheduleLength(), 13);
            some.setCrews(crews);
            some.removeTask();
            Checks.same("scheduleLength without the task", some.scheduleLength(), 4);
        }
    }

    private static void checkNoSchedule(SlackPlan plan) {
        Checks.same("scheduledStart(0)", Checks.answer(() -> plan.scheduledStart(0)), "IllegalStateException");
        Checks.same("scheduledStart(1)", Checks.answer(() -> plan.scheduledStart(1)), "IllegalStateException");
        Checks.same("crewsOn(0)", Checks.answer(() -> plan.crewsOn(0)), "IllegalStateException");
        Checks.same("scheduleLength", Checks.answer(plan::scheduleLength), "IllegalStateException");
        Checks.same("workByDays", Checks.answer(plan::workByDays), "IllegalStateException");
        Checks.same("usage", Checks.answer(plan::usage), "IllegalStateException");
    }

    // ---- promises 35 to 41

    private static void scheduledStart() {
        Document.promise(35, "Returns the day.");
        Checks.same("scheduledStart of the only task", Plans.single().scheduledStart(0), 0);
        Checks.same("scheduledStart of the first of 20", Plans.forty().scheduledStart(0), 0);
        Checks.same("scheduledStart of the last of 20", Plans.forty().scheduledStart(19), 741);
        Document.promise(35, NO_TASK);
        Arguments.noSuchTask("scheduledStart", SlackPlan::scheduledStart);
        Document.promise(35, NO_SCHEDULE);
        Twins.refuses(Plans::shortOfCrews, STATE, "scheduledStart of another task", plan -> plan.scheduledStart(0));
        Twins.refuses(Plans::shortOfCrews, STATE, "scheduledStart of the task", plan -> plan.scheduledStart(1));
    }

    private static void crewsOn() {
        Document.promise(36, "- `day`: 0 to 999");
        Checks.same("crewsOn the first day", Plans.forty().crewsOn(0), 5);
        Checks.same("crewsOn the last day", Plans.forty().crewsOn(999), 0);
        Document.promise(36, "Returns the number.");
        Checks.same("crewsOn the first day of no task", Plans.empty().crewsOn(0), 0);
        Checks.same("crewsOn the last day of no task", Plans.empty().crewsOn(999), 0);
        Checks.same("crewsOn the last day of work", Plans.forty().crewsOn(770), 5);
        Checks.same("crewsOn the day behind the last one", Plans.forty().crewsOn(771), 0);
        Checks.same("crewsOn the last day of the first task", Plans.forty().crewsOn(29), 5);
        Checks.same("crewsOn the first day between tasks", Plans.forty().crewsOn(30), 0);
        Checks.same("crewsOn the last day between tasks", Plans.forty().crewsOn(38), 0);
        Checks.same("crewsOn a day with all nine", withCrews("a1*5;b1*4", 9).crewsOn(0), 9);
        Document.promise(36, "Throws `IllegalArgumentException` if day is out of range");
        Arguments.outOfRange(Plans::forty, "crewsOn", 0, 999, SlackPlan::crewsOn);
        Arguments.outOfRange(Plans::empty, "crewsOn", 0, 999, SlackPlan::crewsOn);
        Document.promise(36, NO_SCHEDULE);
        Twins.refuses(Plans::shortOfCrews, STATE, "crewsOn(0)", plan -> plan.crewsOn(0));
        Twins.refuses(Plans::shortOfCrews, STATE, "crewsOn(999)", plan -> plan.crewsOn(999));
    }

    private static void scheduleLength() {
        Document.promise(37, "Returns the day, 0 without tasks.");
        Checks.same("scheduleLength without tasks", Plans.empty().scheduleLength(), 0);
        Checks.same("scheduleLength without days", Checks.planOf("a0*5;b0*5").scheduleLength(), 0);
        Checks.same("scheduleLength of one task", Plans.single().scheduleLength(), 4);
        Checks.same("scheduleLength of 40 dependencies", Plans.forty().scheduleLength(), 771);
        Checks.same("scheduleLength, the last one early", Checks.planOf("a30*1;b2*1").scheduleLength(), 30);
        Checks.same("scheduleLength of a lag alone", Checks.planOf("a0;b0<a9").scheduleLength(), 9);
        Document.promise(37, NO_SCHEDULE);
        Twins.refuses(Plans::shortOfCrews, STATE, "scheduleLength", SlackPlan::scheduleLength);
    }

    private static void work() {
        Document.promise(38, "Returns the sum of the lengths times the crews.");
        Checks.same("work of no task", Plans.empty().work(), 0);
        Checks.same("work without days", Checks.planOf("a0*5").work(), 0);
        Checks.same("work without crews", Checks.planOf("a30*0").work(), 0);
        Checks.same("work of one day", Checks.planOf("a1*1").work(), 1);
        Checks.same("the greatest work", Plans.forty().work(), 3000);
        Checks.same("work without a schedule", Plans.shortOfCrews().work(), 12);
    }

    private static void workByDays() {
        Document.promise(39, "Returns the sum of the crews that work on all days.");
        Checks.same("workByDays of no task", Plans.empty().workByDays(), 0);
        Checks.same("workByDays without days", Checks.planOf("a0*5").workByDays(), 0);
        Checks.same("workByDays without crews", Checks.planOf("a30*0").workByDays(), 0);
        Checks.same("workByDays of one day", Checks.planOf("a1*1").workByDays(), 1);
        Checks.same("the greatest workByDays", Plans.forty().workByDays(), 3000);
        Document.promise(39, NO_SCHEDULE);
        Twins.refuses(Plans::shortOfCrews, STATE, "workByDays", SlackPlan::workByDays);
    }

    private static void leastCrews() {
        Document.promise(40, "Returns 1 to 9.");
        Checks.same("leastCrews of no task", Plans.empty().leastCrews(), 1);
        Checks.same("leastCrews of tasks without crews", Checks.planOf("a4*0;b4*0").leastCrews(), 1);
        Checks.same("leastCrews of one crew", Checks.planOf("a4*1;b4*1<a").leastCrews(), 1);
        Checks.same("leastCrews of eight", Checks.planOf("a4*5;b4*3").leastCrews(), 8);
        Checks.same("leastCrews of nine", Checks.planOf("a4*5;b4*4").leastCrews(), 9);
        Checks.same("leastCrews of a task without days", Checks.planOf("a0*5;b4*1").leastCrews(), 5);
        Checks.same("leastCrews of 40 dependencies", Plans.forty().leastCrews(), 5);
        Checks.same("leastCrews with fewer crews", Plans.shortOfCrews().leastCrews(), 4);
        Checks.same("leastCrews of a schedule as long as the plan", Checks.planOf("a4*3;b2*3;c2*3").leastCrews(), 6);
        // b comes first, and a fills the gap of one day behind it; in the order of the numbers it would be 8 days.
        Checks.same("leastCrews of a gap that is filled", Checks.planOf("a1*2;b3*2;c3*2<b1").leastCrews(), 2);
        Document.promise(40, "Throws `NoSuchElementException` if there is no such number");
        Twins.refuses(() -> Checks.planOf("a4*5;b4*5"), NoSuchElementException.class, "leastCrews of ten",
            SlackPlan::leastCrews);
        Twins.refuses(() -> Checks.planOf("a4*5;b4*4;c1*1"), NoSuchElementException.class, "leastCrews of a day more",
            SlackPlan::leastCrews);
    }

    private static void usage() {
        Document.promise(41, "Returns the work, converted to double, divided by the length of the schedule times the "
            + "number of crews; 0.0 if that is 0.");
        Checks.same("usage of no task", Plans.empty().usage(), 0.0);
        Checks.same("usage without days", Checks.planOf("a0*5;b0*5").usage(), 0.0);
        Checks.same("usage without crews", Checks.planOf("a30*0").usage(), 0.0);
        Checks.same("usage of all", Checks.planOf("a30*5;b30*5").usage(), 1.0);
        Checks.same("usage of one crew", withCrews("a1*1", 1).usage(), 1.0);
        Checks.same("usage of one of nine crews", withCrews("a1*1", 9).usage(), 1.0 / 9);
        Checks.same("usage of a lag alone", Checks.planOf("a0*5;b0*5<a9").usage(), 0.0);
        Checks.same("usage of 40 dependencies", Plans.forty().usage(), 3000.0 / 3855);
        Document.promise(41, NO_SCHEDULE);
        Twins.refuses(Plans::shortOfCrews, STATE, "usage", SlackPlan::usage);
    }
}
