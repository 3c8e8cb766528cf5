import java.util.Arrays;
import java.util.NoSuchElementException;

/**
 * The plan of a building firm: tasks with lengths, dependencies with lags between them, crews that
 * are limited, and delays that are passed on.
 */
public final class SlackPlan {
    private static final int MAX_TASKS = 20;
    private static final int MAX_DEPENDENCIES = 40;
    private static final int MAX_LENGTH = 30;
    private static final int MAX_NEED = 5;
    private static final int MAX_LAG = 9;
    private static final int MAX_CREWS = 9;
    private static final int FIRST_CREWS = 5;
    private static final int MAX_DELAY = 99;
    // No schedule ends behind day 20 * 30 + 19 * 9: a task can always start when all others have ended.
    private static final int DAY_COUNT = 1000;
    private static final int TEXT_ROOM = 60;
    private static final int HISTORY_ROOM = 5;
    private static final int NONE = -1;

    private final State state = new State();
    private final State snapshot = new State();
    private boolean hasSnapshot = false;
    private final History history = new History();
    private final PlanText text = new PlanText();
    private final Days plannedDays = new Days();
    private final Days delayedDays = new Days();
    private final Rounds rounds = new Rounds();
    private final Chains chains = new Chains();
    private final Schedule schedule = new Schedule();

    /** Creates a plan without tasks. */
    public SlackPlan() {
    }

    // ---- tasks and dependencies

    /** Adds a task, and returns its number. */
    public int addTask(int length, int crews) throws IllegalArgumentException, IllegalStateException {
        requireRange(length, 0, MAX_LENGTH);
        requireRange(crews, 0, MAX_NEED);
        if (state.tasks >= MAX_TASKS) {
            throw new IllegalStateException("there are 20 tasks");
        }
        history.record(state);
        state.add(length, crews);
        return state.tasks - 1;
    }

    /** Removes the task that was added last, and returns the number of dependencies afterwards. */
    public int removeTask() throws IllegalStateException {
        if (state.tasks <= 0) {
            throw new IllegalStateException("there are no tasks");
        }
        history.record(state);
        state.removeLast();
        return state.dependencies;
    }

    /** Changes the length of a task, and returns the length of the plan afterwards. */
    public int setLength(int task, int length) throws IndexOutOfBoundsException, IllegalArgumentException {
        requireTask(task);
        requireRange(length, 0, MAX_LENGTH);
        history.record(state);
        state.lengths[task] = length;
        return plannedDays.find(state);
    }

    /** Adds a dependency or changes its lag, and returns the length of the plan afterwards. */
    public int depend(int from, int to, int lag)
            throws IndexOutOfBoundsException, IllegalArgumentException, IllegalStateException {
        requireTask(from);
        requireTask(to);
        requireRange(lag, 0, MAX_LAG);
        if (from == to) {
            throw new IllegalArgumentException("both tasks are the same");
        }
        if (state.dependencies >= MAX_DEPENDENCIES && state.lag(from, to) == NONE) {
            throw new IllegalStateException("there are 40 dependencies");
        }
        if (chains.leads(state, to, from)) {
            throw new IllegalStateException("the second task is ahead of the first one");
        }
        history.record(state);
        state.link(from, to, lag);
        return plannedDays.find(state);
    }

    /** Removes a dependency, and returns its lag. */
    public int release(int from, int to) throws IndexOutOfBoundsException, NoSuchElementException {
        int lag = requireLag(from, to);
        history.record(state);
        state.unlink(from, to);
        return lag;
    }

    /** Changes the number of crews, and returns the previous number. */
    public int setCrews(int crews) throws IllegalArgumentException {
        requireRange(crews, 1, MAX_CREWS);
        history.record(state);
        int previous = state.crews;
        state.crews = crews;
        return previous;
    }

    /** Replaces all tasks and dependencies by the plan in the text buffer, and returns the number of tasks. */
    public int readPlan() throws IllegalArgumentException {
        if (!text.read()) {
            throw new IllegalArgumentException("the buffer is not a plan");
        }
        history.record(state);
        state.copyTasks(text.plan);
        return state.tasks;
    }

    // ---- text

    /** Appends a character to the text buffer, and returns the length of the buffer afterwards. */
    public int append(char character) throws IllegalStateException {
        if (text.length >= TEXT_ROOM) {
            throw new IllegalStateException("the buffer has 60 characters");
        }
        text.put(character);
        return text.length;
    }

    /** Clears the text buffer, and returns the length that it had. */
    public int clearText() {
        int previous = text.length;
        text.length = 0;
        return previous;
    }

    /** Tells whether the text buffer is a plan. */
    public boolean isValid() {
        return text.read();
    }

    /** Returns the index of the first error of the text buffer. */
    public int firstError() throws IllegalStateException {
        if (text.read()) {
            throw new IllegalStateException("the buffer is a plan");
        }
        return text.position;
    }

    // ---- history

    /** Restores the latest state of the history, and returns the number of states that remain there. */
    public int undo() throws IllegalStateException {
        if (history.size <= 0) {
            throw new IllegalStateException("the history is empty");
        }
        history.takeLatest(state);
        return history.size;
    }

    /** Takes a snapshot of the state, and returns the number of tasks. */
    public int takeSnapshot() {
        snapshot.copyAll(state);
        hasSnapshot = true;
        return state.tasks;
    }

    /** Restores the state of the snapshot, and returns the number of tasks afterwards. */
    public int restoreSnapshot() throws IllegalStateException {
        if (!hasSnapshot) {
            throw new IllegalStateException("there is no snapshot");
        }
        history.record(state);
        state.copyAll(snapshot);
        return state.tasks;
    }

    // ---- queries about tasks

    /** Returns the number of tasks. */
    public int taskCount() {
        return state.tasks;
    }

    /** Returns the number of dependencies. */
    public int dependencyCount() {
        return state.dependencies;
    }

    /** Returns the length of a task. */
    public int lengthOf(int task) throws IndexOutOfBoundsException {
        requireTask(task);
        return state.lengths[task];
    }

    /** Returns the crews that a task needs. */
    public int crewsOf(int task) throws IndexOutOfBoundsException {
        requireTask(task);
        return state.needs[task];
    }

    /** Returns the lag of a dependency. */
    public int lagOf(int from, int to) throws IndexOutOfBoundsException, NoSuchElementException {
        return requireLag(from, to);
    }

    /** Tells whether a task is ahead of another one. */
    public boolean isAhead(int task, int other) throws IndexOutOfBoundsException {
        requireTask(task);
        requireTask(other);
        return chains.leads(state, task, other);
    }

    // ---- days and slack

    /** Returns the earliest start of a task. */
    public int earliestStart(int task) throws IndexOutOfBoundsException {
        requireTask(task);
        plannedDays.find(state);
        return plannedDays.earliest[task];
    }

    /** Returns the latest start of a task. */
    public int latestStart(int task) throws IndexOutOfBoundsException {
        requireTask(task);
        plannedDays.find(state);
        return plannedDays.latest[task];
    }

    /** Returns the length of the plan, found by going through the tasks. */
    public int planLength() {
        return plannedDays.find(state);
    }

    /** Returns the length of the plan, found by moving starts in rounds. */
    public int planLengthByRounds() {
        return rounds.find(state);
    }

    /** Returns the slack of a task. */
    public int slack(int task) throws IndexOutOfBoundsException {
        requireTask(task);
        plannedDays.find(state);
        return plannedDays.slackAt(task);
    }

    /** Returns the slack of a task, found from the longest chain that contains it. */
    public int slackByChain(int task) throws IndexOutOfBoundsException {
        requireTask(task);
        return plannedDays.find(state) - chains.longestWith(state, task);
    }

    /** Returns the free slack of a task. */
    public int freeSlack(int task) throws IndexOutOfBoundsException {
        requireTask(task);
        plannedDays.find(state);
        return plannedDays.freeSlackAt(state, task);
    }

    /** Returns the number of critical tasks. */
    public int criticalTasks() {
        plannedDays.find(state);
        int critical = 0;
        for (int task = 0; task < state.tasks; task++) {
            if (plannedDays.slackAt(task) == 0) {
                critical++;
            }
        }
        return critical;
    }

    /** Returns the number of whole chains that are as long as the plan. */
    public long criticalChains() {
        plannedDays.find(state);
        return chains.countLongest(state, plannedDays);
    }

    /** Returns the longest length with which a task would not make the plan longer. */
    public int longestHarmless(int task) throws IndexOutOfBoundsException {
        requireTask(task);
        plannedDays.find(state);
        return state.lengths[task] + plannedDays.slackAt(task);
    }

    // ---- delays

    /** Returns by how much a delay would make the plan longer, found by computing all days anew. */
    public int delayOfPlan(int task, int days) throws IndexOutOfBoundsException, IllegalArgumentException {
        requireTask(task);
        requireRange(days, 0, MAX_DELAY);
        return delayedDays.findDelayed(state, task, days) - plannedDays.find(state);
    }

    /** Returns by how much a delay would make the plan longer, found from the slack of the task. */
    public int delayBySlack(int task, int days) throws IndexOutOfBoundsException, IllegalArgumentException {
        requireTask(task);
        requireRange(days, 0, MAX_DELAY);
        plannedDays.find(state);
        return Math.max(0, days - plannedDays.slackAt(task));
    }

    /** Returns how many other tasks would have a later earliest start after a delay. */
    public int tasksMoved(int task, int days) throws IndexOutOfBoundsException, IllegalArgumentException {
        requireTask(task);
        requireRange(days, 0, MAX_DELAY);
        plannedDays.find(state);
        delayedDays.findDelayed(state, task, days);
        int moved = 0;
        for (int other = 0; other < state.tasks; other++) {
            if (other != task && delayedDays.earliest[other] > plannedDays.earliest[other]) {
                moved++;
            }
        }
        return moved;
    }

    // ---- crews

    /** Returns the start of a task by the schedule. */
    public int scheduledStart(int task) throws IndexOutOfBoundsException, IllegalStateException {
        requireTask(task);
        requireSchedule();
        return schedule.starts[task];
    }

    /** Returns the crews that work on a day by the schedule. */
    public int crewsOn(int day) throws IllegalArgumentException, IllegalStateException {
        requireRange(day, 0, DAY_COUNT - 1);
        requireSchedule();
        return schedule.working[day];
    }

    /** Returns the greatest end of all tasks by the schedule. */
    public int scheduleLength() throws IllegalStateException {
        requireSchedule();
        return schedule.length;
    }

    /** Returns the work of all tasks, found task by task. */
    public int work() {
        return state.sumOfWork();
    }

    /** Returns the work of all tasks, found day by day by the schedule. */
    public int workByDays() throws IllegalStateException {
        requireSchedule();
        return schedule.sumOfDays();
    }

    /** Returns the least number of crews with which the schedule is not longer than the plan. */
    public int leastCrews() throws NoSuchElementException {
        int planned = plannedDays.find(state);
        for (int crews = 1; crews <= MAX_CREWS; crews++) {
            if (schedule.build(state, crews, plannedDays) && schedule.length <= planned) {
                return crews;
            }
        }
        throw new NoSuchElementException("no number of crews keeps to the length of the plan");
    }

    /** Returns how much of the time of all crews is used by the schedule. */
    public double usage() throws IllegalStateException {
        requireSchedule();
        int available = schedule.length * state.crews;
        return available == 0 ? 0.0 : (double) state.sumOfWork() / available;
    }

    /** Returns the number of states in the history. */
    public int historySize() {
        return history.size;
    }

    // ---- what the calls above ask of their arguments and of the state

    private void requireTask(int task) {
        if (!state.has(task)) {
            throw new IndexOutOfBoundsException("there is no such task");
        }
    }

    private void requireRange(int value, int least, int greatest) {
        if (value < least || value > greatest) {
            throw new IllegalArgumentException("an argument is out of range");
        }
    }

    private int requireLag(int from, int to) {
        requireTask(from);
        requireTask(to);
        int lag = state.lag(from, to);
        if (lag == NONE) {
            throw new NoSuchElementException("there is no such dependency");
        }
        return lag;
    }

    private void requireSchedule() {
        plannedDays.find(state);
        if (!schedule.build(state, state.crews, plannedDays)) {
            throw new IllegalStateException("there is no schedule");
        }
    }

    /** All that undo and a snapshot bring back. */
    private static final class State {
        int tasks = 0;
        int dependencies = 0;
        int crews = FIRST_CREWS;
        final int[] lengths = new int[MAX_TASKS];
        final int[] needs = new int[MAX_TASKS];
        // One row a task from which dependencies lead; rows and columns behind the last task hold NONE alone.
        final int[] lags = new int[MAX_TASKS * MAX_TASKS];

        State() {
            Arrays.fill(lags, NONE);
        }

        boolean has(int task) {
            return task >= 0 && task < tasks;
        }

        int lag(int from, int to) {
            return has(from) && has(to) ? lags[from * MAX_TASKS + to] : NONE;
        }

        int countBefore(int task) {
            int count = 0;
            for (int from = 0; from < tasks; from++) {
                if (lag(from, task) != NONE) {
                    count++;
                }
            }
            return count;
        }

        int sumOfWork() {
            int sum = 0;
            for (int task = 0; task < tasks; task++) {
                sum += lengths[task] * needs[task];
            }
            return sum;
        }

        void copyAll(State other) {
            copyTasks(other);
            crews = other.crews;
        }

        void copyTasks(State other) {
            tasks = other.tasks;
            dependencies = other.dependencies;
            System.arraycopy(other.lengths, 0, lengths, 0, MAX_TASKS);
            System.arraycopy(other.needs, 0, needs, 0, MAX_TASKS);
            System.arraycopy(other.lags, 0, lags, 0, MAX_TASKS * MAX_TASKS);
        }

        void removeAll() {
            tasks = 0;
            dependencies = 0;
            Arrays.fill(lags, NONE);
        }

        void add(int length, int need) {
            if (tasks < MAX_TASKS) {
                lengths[tasks] = length;
                needs[tasks] = need;
                tasks++;
            }
        }

        void removeLast() {
            int last = tasks - 1;
            for (int other = 0; other < last; other++) {
                unlink(last, other);
                unlink(other, last);
            }
            tasks = Math.max(0, last);
        }

        void link(int from, int to, int lag) {
            if (has(from) && has(to)) {
                if (lag(from, to) == NONE) {
                    dependencies++;
                }
                lags[from * MAX_TASKS + to] = lag;
            }
        }

        void unlink(int from, int to) {
            if (lag(from, to) != NONE) {
                dependencies--;
                lags[from * MAX_TASKS + to] = NONE;
            }
        }
    }

    /** The latest states, in a ring whose places are used again. */
    private static final class History {
        int size = 0;
        private int oldest = 0;
        private final State[] states = new State[HISTORY_ROOM];

        History() {
            for (int place = 0; place < HISTORY_ROOM; place++) {
                states[place] = new State();
            }
        }

        void record(State state) {
            if (size == HISTORY_ROOM) {
                oldest = (oldest + 1) % HISTORY_ROOM;
                size--;
            }
            states[(oldest + size) % HISTORY_ROOM].copyAll(state);
            size++;
        }

        void takeLatest(State state) {
            if (size > 0) {
                size--;
                state.copyAll(states[(oldest + size) % HISTORY_ROOM]);
            }
        }
    }

    /** The text buffer, and the reading of a plan from it. */
    private static final class PlanText {
        int length = 0;
        // Where the reading stands: after a reading that failed, at the first error.
        int position = 0;
        // Apart from the state of the object, since a reading that fails must change nothing there.
        final State plan = new State();
        private final char[] signs = new char[TEXT_ROOM];

        void put(char sign) {
            if (length < TEXT_ROOM) {
                signs[length] = sign;
                length++;
            }
        }

        boolean read() {
            position = 0;
            plan.removeAll();
            for (int task = 0; task < MAX_TASKS; task++) {
                if (!readTask(task)) {
                    return false;
                }
                if (task == MAX_TASKS - 1 || !take(';')) {
                    return position == length;
                }
            }
            return false;
        }

        private boolean readTask(int task) {
            if (!take((char) ('a' + task))) {
                return false;
            }
            int days = readLength();
            if (days == NONE) {
                return false;
            }
            int need = 1;
            if (take('*')) {
                need = readFrom('0', 0, MAX_NEED);
                if (need == NONE) {
                    return false;
                }
            }
            plan.add(days, need);
            // The first task has none in front of it.
            return task == 0 || !take('<') || readPredecessors(task);
        }

        private int readLength() {
            int first = readFrom('0', 0, 9);
            if (first < 1 || first > 3) {
                return first;
            }
            int second = readFrom('0', 0, first == 3 ? 0 : 9);
            return second == NONE ? first : first * 10 + second;
        }

        private boolean readPredecessors(int task) {
            int least = 0;
            for (int count = 0; count < task; count++) {
                int from = readFrom('a', least, task - 1);
                if (from == NONE) {
                    return false;
                }
                plan.link(from, task, Math.max(0, readFrom('0', 0, MAX_LAG)));
                least = from + 1;
                // Behind the task just in front no letter can rise any more.
                if (least == task || !take('+')) {
                    return true;
                }
            }
            return false;
        }

        private boolean take(char sign) {
            return readFrom(sign, 0, 0) == 0;
        }

        /** Takes one sign that stands from least to greatest places behind zero, and returns how many; else NONE. */
        private int readFrom(char zero, int least, int greatest) {
            if (position < 0 || position >= length || position >= TEXT_ROOM) {
                return NONE;
            }
            int value = signs[position] - zero;
            if (value < least || value > greatest) {
                return NONE;
            }
            position++;
            return value;
        }
    }

    /** The tasks in an order in which each stands after all that are ahead of it. */
    private static final class Order {
        int size = 0;
        final int[] tasks = new int[MAX_TASKS];
        private final int[] waiting = new int[MAX_TASKS];

        void sort(State plan) {
            size = 0;
            for (int task = 0; task < plan.tasks; task++) {
                waiting[task] = plan.countBefore(task);
                if (waiting[task] == 0) {
                    put(task);
                }
            }
            for (int place = 0; place < size && place < MAX_TASKS; place++) {
                for (int to = 0; to < plan.tasks; to++) {
                    if (plan.lag(tasks[place], to) != NONE) {
                        waiting[to]--;
                        if (waiting[to] == 0) {
                            put(to);
                        }
                    }
                }
            }
        }

        private void put(int task) {
            if (size < MAX_TASKS) {
                tasks[size] = task;
                size++;
            }
        }
    }

    /** The earliest and latest days of a plan, and what follows from them. */
    private static final class Days {
        final int[] earliest = new int[MAX_TASKS];
        final int[] latest = new int[MAX_TASKS];
        int span = 0;
        private final int[] lengths = new int[MAX_TASKS];
        private final Order order = new Order();

        /** Finds all days, and returns the length of the plan. */
        int find(State plan) {
            System.arraycopy(plan.lengths, 0, lengths, 0, MAX_TASKS);
            return findAll(plan);
        }

        int findDelayed(State plan, int task, int delay) {
            System.arraycopy(plan.lengths, 0, lengths, 0, MAX_TASKS);
            if (plan.has(task)) {
                lengths[task] += delay;
            }
            return findAll(plan);
        }

        int slackAt(int task) {
            return task >= 0 && task < MAX_TASKS ? latest[task] - earliest[task] : 0;
        }

        int freeSlackAt(State plan, int task) {
            if (!plan.has(task)) {
                return 0;
            }
            int end = earliest[task] + lengths[task];
            int free = span - end;
            for (int to = 0; to < plan.tasks; to++) {
                int lag = plan.lag(task, to);
                if (lag != NONE) {
                    free = Math.min(free, earliest[to] - lag - end);
                }
            }
            return free;
        }

        private int findAll(State plan) {
            order.sort(plan);
            findEarliest(plan);
            findLatest(plan);
            return span;
        }

        private void findEarliest(State plan) {
            Arrays.fill(earliest, 0);
            span = 0;
            for (int place = 0; place < order.size; place++) {
                int task = order.tasks[place];
                int end = earliest[task] + lengths[task];
                span = Math.max(span, end);
                for (int to = 0; to < plan.tasks; to++) {
                    int lag = plan.lag(task, to);
                    if (lag != NONE) {
                        earliest[to] = Math.max(earliest[to], end + lag);
                    }
                }
            }
        }

        private void findLatest(State plan) {
            for (int place = order.size - 1; place >= 0; place--) {
                int task = order.tasks[place];
                int end = span;
                for (int to = 0; to < plan.tasks; to++) {
                    int lag = plan.lag(task, to);
                    if (lag != NONE) {
                        end = Math.min(end, latest[to] - lag);
                    }
                }
                latest[task] = end - lengths[task];
            }
        }
    }

    /** The length of the plan once more, without an order of the tasks. */
    private static final class Rounds {
        private final int[] starts = new int[MAX_TASKS];

        int find(State plan) {
            Arrays.fill(starts, 0);
            boolean moved = true;
            // A chain has at most as many tasks as the plan, so that no start moves in more rounds.
            for (int round = 0; moved && round <= plan.tasks; round++) {
                moved = moveAll(plan);
            }
            int span = 0;
            for (int task = 0; task < plan.tasks; task++) {
                span = Math.max(span, starts[task] + plan.lengths[task]);
            }
            return span;
        }

        private boolean moveAll(State plan) {
            boolean moved = false;
            for (int from = 0; from < plan.tasks; from++) {
                int end = starts[from] + plan.lengths[from];
                for (int to = 0; to < plan.tasks; to++) {
                    int lag = plan.lag(from, to);
                    if (lag != NONE && starts[to] < end + lag) {
                        starts[to] = end + lag;
                        moved = true;
                    }
                }
            }
            return moved;
        }
    }

    /** What is found by following dependencies from task to task. */
    private static final class Chains {
        private final Order order = new Order();
        private final boolean[] reached = new boolean[MAX_TASKS];
        private final int[] longestTo = new int[MAX_TASKS];
        private final int[] longestFrom = new int[MAX_TASKS];
        private final long[] counts = new long[MAX_TASKS];

        /** Tells whether a chain with at least two tasks leads from a task to another one. */
        boolean leads(State plan, int task, int other) {
            if (!plan.has(task) || !plan.has(other) || task == other) {
                return false;
            }
            for (int each = 0; each < MAX_TASKS; each++) {
                reached[each] = each == task;
            }
            order.sort(plan);
            for (int place = 0; place < order.size; place++) {
                int from = order.tasks[place];
                for (int to = 0; to < plan.tasks; to++) {
                    if (reached[from] && plan.lag(from, to) != NONE) {
                        reached[to] = true;
                    }
                }
            }
            return reached[other];
        }

        /** Returns the length of the longest chain that contains a task. */
        int longestWith(State plan, int task) {
            if (!plan.has(task)) {
                return 0;
            }
            order.sort(plan);
            for (int place = 0; place < order.size; place++) {
                int to = order.tasks[place];
                longestTo[to] = plan.lengths[to] + longestBefore(plan, to);
            }
            for (int place = order.size - 1; place >= 0; place--) {
                int from = order.tasks[place];
                longestFrom[from] = plan.lengths[from] + longestBehind(plan, from);
            }
            // The task itself is in both halves.
            return longestTo[task] + longestFrom[task] - plan.lengths[task];
        }

        private int longestBefore(State plan, int to) {
            int longest = 0;
            for (int from = 0; from < plan.tasks; from++) {
                int lag = plan.lag(from, to);
                if (lag != NONE) {
                    longest = Math.max(longest, longestTo[from] + lag);
                }
            }
            return longest;
        }

        private int longestBehind(State plan, int from) {
            int longest = 0;
            for (int to = 0; to < plan.tasks; to++) {
                int lag = plan.lag(from, to);
                if (lag != NONE) {
                    longest = Math.max(longest, lag + longestFrom[to]);
                }
            }
            return longest;
        }

        /** Counts the whole chains as long as the plan: those in which no task waits longer than it must. */
        long countLongest(State plan, Days days) {
            for (int task = 0; task < plan.tasks; task++) {
                counts[task] = plan.countBefore(task) == 0 ? 1 : 0;
            }
            order.sort(plan);
            long total = 0;
            for (int place = 0; place < order.size; place++) {
                int task = order.tasks[place];
                int end = days.earliest[task] + plan.lengths[task];
                boolean isLast = true;
                for (int to = 0; to < plan.tasks; to++) {
                    int lag = plan.lag(task, to);
                    if (lag != NONE) {
                        isLast = false;
                        counts[to] += days.earliest[to] == end + lag ? counts[task] : 0;
                    }
                }
                total += isLast && end == days.span ? counts[task] : 0;
            }
            return total;
        }
    }

    /** The starts of the tasks when crews are limited. */
    private static final class Schedule {
        private static final int PLACED = -1;

        int length = 0;
        // Of a task without a start: the least one that the tasks placed so far leave to it.
        final int[] starts = new int[MAX_TASKS];
        final int[] working = new int[DAY_COUNT];
        // How many tasks from which a dependency leads to a task have no start yet.
        private final int[] waiting = new int[MAX_TASKS];

        /** Makes the schedule, by the latest starts of the days found before; false if there is none. */
        boolean build(State plan, int crews, Days days) {
            for (int task = 0; task < plan.tasks; task++) {
                if (plan.needs[task] > crews) {
                    return false;
                }
            }
            clear(plan);
            for (int count = 0; count < plan.tasks; count++) {
                place(plan, crews, nextTask(plan, days));
            }
            return true;
        }

        int sumOfDays() {
            int sum = 0;
            for (int day = 0; day < length && day < DAY_COUNT; day++) {
                sum += working[day];
            }
            return sum;
        }

        private void clear(State plan) {
            length = 0;
            Arrays.fill(starts, 0);
            Arrays.fill(working, 0);
            for (int task = 0; task < plan.tasks; task++) {
                waiting[task] = plan.countBefore(task);
            }
        }

        private int nextTask(State plan, Days days) {
            int next = NONE;
            for (int task = 0; task < plan.tasks; task++) {
                if (waiting[task] == 0 && (next == NONE || days.latest[task] < days.latest[next])) {
                    next = task;
                }
            }
            return next;
        }

        private void place(State plan, int crews, int task) {
            if (!plan.has(task)) {
                return;
            }
            int need = plan.needs[task];
            int start = leastStart(starts[task], plan.lengths[task], crews - need);
            int end = start + plan.lengths[task];
            starts[task] = start;
            waiting[task] = PLACED;
            length = Math.max(length, end);
            for (int day = start; day < end && day < DAY_COUNT; day++) {
                working[day] += need;
            }
            for (int to = 0; to < plan.tasks; to++) {
                int lag = plan.lag(task, to);
                if (lag != NONE) {
                    waiting[to]--;
                    starts[to] = Math.max(starts[to], end + lag);
                }
            }
        }

        /** Returns the least start from a day on such that on all days at most so many other crews work. */
        private int leastStart(int from, int days, int others) {
            int start = from;
            for (int day = from; day < start + days && day < DAY_COUNT; day++) {
                if (working[day] > others) {
                    start = day + 1;
                }
            }
            return start;
        }
    }
}
