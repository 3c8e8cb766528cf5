import java.util.ArrayDeque;
import java.util.ArrayList;
import java.util.Deque;
import java.util.List;
import java.util.Map;
import java.util.NoSuchElementException;
import java.util.TreeMap;
import java.util.regex.Pattern;

/** The document once more, said as plainly as the Java library allows, with no care for speed. */
final class Model {
    private static final Pattern TASK =
        Pattern.compile("[a-t](30|[12]?[0-9])(\\*[0-5])?(<[a-t][0-9]?(\\+[a-t][0-9]?)*)?");

    private List<int[]> tasks = new ArrayList<>();
    private Map<Integer, Integer> lags = new TreeMap<>();
    private int crews = 5;
    private String text = "";
    private Deque<Model> history = new ArrayDeque<>();
    private Model snapshot = null;

    private Model copy() {
        Model copy = new Model();
        copy.restore(this);
        return copy;
    }

    private void restore(Model other) {
        tasks = new ArrayList<>();
        for (int[] task : other.tasks) {
            tasks.add(task.clone());
        }
        lags = new TreeMap<>(other.lags);
        crews = other.crews;
    }

    private void record() {
        history.addLast(copy());
        if (history.size() > 5) {
            history.removeFirst();
        }
    }

    private void task(int task) {
        if (task < 0 || task >= tasks.size()) {
            throw new IndexOutOfBoundsException();
        }
    }

    private static void range(int value, int least, int greatest) {
        if (value < least || value > greatest) {
            throw new IllegalArgumentException();
        }
    }

    private static int key(int from, int to) {
        return from * 100 + to;
    }

    int addTask(int length, int need) {
        range(length, 0, 30);
        range(need, 0, 5);
        if (tasks.size() == 20) {
            throw new IllegalStateException();
        }
        record();
        tasks.add(new int[] {length, need});
        return tasks.size() - 1;
    }

    int removeTask() {
        if (tasks.isEmpty()) {
            throw new IllegalStateException();
        }
        record();
        int last = tasks.size() - 1;
        tasks.remove(last);
        lags.keySet().removeIf(key -> key / 100 == last || key % 100 == last);
        return lags.size();
    }

    int setLength(int task, int length) {
        task(task);
        range(length, 0, 30);
        record();
        tasks.get(task)[0] = length;
        return planLength();
    }

    int depend(int from, int to, int lag) {
        task(from);
        task(to);
        range(lag, 0, 9);
        if (from == to) {
            throw new IllegalArgumentException();
        }
        if (lags.size() == 40 && !lags.containsKey(key(from, to)) || isAhead(to, from)) {
            throw new IllegalStateException();
        }
        record();
        lags.put(key(from, to), lag);
        return planLength();
    }

    int release(int from, int to) {
        int lag = lagOf(from, to);
        record();
        lags.remove(key(from, to));
        return lag;
    }

    int setCrews(int number) {
        range(number, 1, 9);
        record();
        int previous = crews;
        crews = number;
        return previous;
    }

    int readPlan() {
        if (!isValid()) {
            throw new IllegalArgumentException();
        }
        record();
        tasks.clear();
        lags.clear();
        for (String part : text.split(";")) {
            String[] sides = part.substring(1).split("<");
            String[] numbers = sides[0].split("\\*");
            int need = numbers.length > 1 ? Integer.parseInt(numbers[1]) : 1;
            tasks.add(new int[] {Integer.parseInt(numbers[0]), need});
            if (sides.length > 1) {
                for (String before : sides[1].split("\\+")) {
                    int lag = before.length() > 1 ? before.charAt(1) - '0' : 0;
                    lags.put(key(before.charAt(0) - 'a', tasks.size() - 1), lag);
                }
            }
        }
        return tasks.size();
    }

    int append(char character) {
        if (text.length() == 60) {
            throw new IllegalStateException();
        }
        text += character;
        return text.length();
    }

    int clearText() {
        int length = text.length();
        text = "";
        return length;
    }

    boolean isValid() {
        return isPlan(text);
    }

    private static boolean isPlan(String text) {
        String[] parts = text.split(";", -1);
        if (parts.length > 20) {
            return false;
        }
        for (int task = 0; task < parts.length; task++) {
            String part = parts[task];
            if (!TASK.matcher(part).matches() || part.charAt(0) != 'a' + task) {
                return false;
            }
            int last = -1;
            for (int i = part.indexOf('<') + 1; i > 0 && i < part.length(); i++) {
                int letter = part.charAt(i) - 'a';
                if (letter >= 0 && letter < 26) {
                    if (letter <= last || letter >= task) {
                        return false;
                    }
                    last = letter;
                }
            }
        }
        return true;
    }

    /** A piece of a plan lacks at most a letter and a digit at its end. */
    static boolean canBecomePlan(String piece) {
        if (isPlan(piece) || isPlan(piece + "0")) {
            return true;
        }
        for (char letter = 'a'; letter <= 't'; letter++) {
            if (isPlan(piece + letter) || isPlan(piece + letter + "0")) {
                return true;
            }
        }
        return false;
    }

    int firstError() {
        if (isValid()) {
            throw new IllegalStateException();
        }
        int index = 0;
        while (index < text.length() && canBecomePlan(text.substring(0, index + 1))) {
            index++;
        }
        return index;
    }

    int undo() {
        if (history.isEmpty()) {
            throw new IllegalStateException();
        }
        restore(history.removeLast());
        return history.size();
    }

    int takeSnapshot() {
        snapshot = copy();
        return tasks.size();
    }

    int restoreSnapshot() {
        if (snapshot == null) {
            throw new IllegalStateException();
        }
        record();
        restore(snapshot);
        return tasks.size();
    }

    int taskCount() {
        return tasks.size();
    }

    int dependencyCount() {
        return lags.size();
    }

    int lengthOf(int task) {
        task(task);
        return tasks.get(task)[0];
    }

    int crewsOf(int task) {
        task(task);
        return tasks.get(task)[1];
    }

    int lagOf(int from, int to) {
        task(from);
        task(to);
        Integer lag = lags.get(key(from, to));
        if (lag == null) {
            throw new NoSuchElementException();
        }
        return lag;
    }

    boolean isAhead(int task, int other) {
        task(task);
        task(other);
        List<Integer> reached = new ArrayList<>(List.of(task));
        for (int i = 0; i < reached.size(); i++) {
            for (int key : lags.keySet()) {
                if (key / 100 == reached.get(i) && !reached.contains(key % 100)) {
                    reached.add(key % 100);
                }
            }
        }
        return task != other && reached.contains(other);
    }

    private int[] earliest() {
        int[] starts = new int[tasks.size()];
        for (int round = 0; round < 25; round++) {
            for (Map.Entry<Integer, Integer> each : lags.entrySet()) {
                int from = each.getKey() / 100;
                int to = each.getKey() % 100;
                starts[to] = Math.max(starts[to], starts[from] + tasks.get(from)[0] + each.getValue());
            }
        }
        return starts;
    }

    private int[] latest() {
        int[] starts = new int[tasks.size()];
        for (int task = 0; task < starts.length; task++) {
            starts[task] = planLength() - tasks.get(task)[0];
        }
        for (int round = 0; round < 25; round++) {
            for (Map.Entry<Integer, Integer> each : lags.entrySet()) {
                int from = each.getKey() / 100;
                int to = each.getKey() % 100;
                starts[from] = Math.min(starts[from], starts[to] - each.getValue() - tasks.get(from)[0]);
            }
        }
        return starts;
    }

    int earliestStart(int task) {
        task(task);
        return earliest()[task];
    }

    int latestStart(int task) {
        task(task);
        return latest()[task];
    }

    int planLength() {
        int length = 0;
        int[] starts = earliest();
        for (int task = 0; task < starts.length; task++) {
            length = Math.max(length, starts[task] + tasks.get(task)[0]);
        }
        return length;
    }

    int slack(int task) {
        task(task);
        return latest()[task] - earliest()[task];
    }

    int freeSlack(int task) {
        task(task);
        int free = 0;
        while (free < 1000 && tasksMovedBy(task, free + 1) == 0 && delayed(task, free + 1).planLength() == planLength()) {
            free++;
        }
        return free;
    }

    int criticalTasks() {
        int count = 0;
        for (int task = 0; task < tasks.size(); task++) {
            count += slack(task) == 0 ? 1 : 0;
        }
        return count;
    }

    long criticalChains() {
        long count = 0;
        int length = planLength();
        for (int task = 0; task < tasks.size(); task++) {
            int to = task;
            if (lags.keySet().stream().noneMatch(key -> key % 100 == to)) {
                count += chainsFrom(task, length);
            }
        }
        return count;
    }

    private long chainsFrom(int task, int left) {
        long count = 0;
        boolean last = true;
        for (Map.Entry<Integer, Integer> each : lags.entrySet()) {
            if (each.getKey() / 100 == task) {
                last = false;
                count += chainsFrom(each.getKey() % 100, left - tasks.get(task)[0] - each.getValue());
            }
        }
        return last ? (left == tasks.get(task)[0] ? 1 : 0) : count;
    }

    int longestHarmless(int task) {
        task(task);
        int length = tasks.get(task)[0];
        while (delayed(task, length + 1 - tasks.get(task)[0]).planLength() == planLength()) {
            length++;
        }
        return length;
    }

    private Model delayed(int task, int days) {
        Model other = copy();
        other.tasks.get(task)[0] += days;
        return other;
    }

    int delayOfPlan(int task, int days) {
        task(task);
        range(days, 0, 99);
        return delayed(task, days).planLength() - planLength();
    }

    int tasksMoved(int task, int days) {
        task(task);
        range(days, 0, 99);
        return tasksMovedBy(task, days);
    }

    private int tasksMovedBy(int task, int days) {
        int[] before = earliest();
        int[] after = delayed(task, days).earliest();
        int moved = 0;
        for (int other = 0; other < before.length; other++) {
            moved += other != task && after[other] > before[other] ? 1 : 0;
        }
        return moved;
    }

    private int[] schedule(int number) {
        for (int[] task : tasks) {
            if (task[1] > number) {
                throw new IllegalStateException();
            }
        }
        int[] starts = new int[tasks.size()];
        java.util.Arrays.fill(starts, -1);
        int[] latest = latest();
        for (int count = 0; count < starts.length; count++) {
            int next = -1;
            for (int task = starts.length - 1; task >= 0; task--) {
                if (starts[task] < 0 && mayStart(starts, task) && (next < 0 || latest[task] <= latest[next])) {
                    next = task;
                }
            }
            int start = 0;
            for (Map.Entry<Integer, Integer> each : lags.entrySet()) {
                int from = each.getKey() / 100;
                if (each.getKey() % 100 == next) {
                    start = Math.max(start, starts[from] + tasks.get(from)[0] + each.getValue());
                }
            }
            while (!suffices(starts, next, start, number)) {
                start++;
            }
            starts[next] = start;
        }
        return starts;
    }

    private boolean mayStart(int[] starts, int task) {
        for (int other = 0; other < starts.length; other++) {
            if (starts[other] < 0 && isAhead(other, task)) {
                return false;
            }
        }
        return true;
    }

    private boolean suffices(int[] starts, int task, int start, int number) {
        for (int day = start; day < start + tasks.get(task)[0]; day++) {
            if (workOn(starts, day) + tasks.get(task)[1] > number) {
                return false;
            }
        }
        return true;
    }

    private int workOn(int[] starts, int day) {
        int sum = 0;
        for (int task = 0; task < starts.length; task++) {
            boolean works = starts[task] >= 0 && starts[task] <= day && day < starts[task] + tasks.get(task)[0];
            sum += works ? tasks.get(task)[1] : 0;
        }
        return sum;
    }

    int scheduledStart(int task) {
        task(task);
        return schedule(crews)[task];
    }

    int crewsOn(int day) {
        range(day, 0, 999);
        return workOn(schedule(crews), day);
    }

    int scheduleLength() {
        return lengthWith(crews);
    }

    private int lengthWith(int number) {
        int length = 0;
        int[] starts = schedule(number);
        for (int task = 0; task < starts.length; task++) {
            length = Math.max(length, starts[task] + tasks.get(task)[0]);
        }
        return length;
    }

    int work() {
        return tasks.stream().mapToInt(task -> task[0] * task[1]).sum();
    }

    int workByDays() {
        schedule(crews);
        return work();
    }

    int leastCrews() {
        int most = tasks.stream().mapToInt(task -> task[1]).max().orElse(1);
        for (int number = Math.max(1, most); number <= 9; number++) {
            if (lengthWith(number) <= planLength()) {
                return number;
            }
        }
        throw new NoSuchElementException();
    }

    double usage() {
        int length = scheduleLength();
        return length == 0 ? 0.0 : (double) work() / (length * crews);
    }

    int historySize() {
        return history.size();
    }
}
