import java.lang.reflect.Constructor;
import java.lang.reflect.Field;
import java.lang.reflect.Method;
import java.lang.reflect.Modifier;
import java.util.Set;
import java.util.TreeSet;

/** The public face stands as the document writes it, and nothing else of the class can be seen. */
public final class FaceTests {
    private static final String[] FACE = {
        "int addTask(int, int) IllegalArgumentException IllegalStateException",
        "int removeTask() IllegalStateException",
        "int setLength(int, int) IndexOutOfBoundsException IllegalArgumentException",
        "int depend(int, int, int) IndexOutOfBoundsException IllegalArgumentException IllegalStateException",
        "int release(int, int) IndexOutOfBoundsException NoSuchElementException",
        "int setCrews(int) IllegalArgumentException",
        "int readPlan() IllegalArgumentException",
        "int append(char) IllegalStateException",
        "int clearText()",
        "boolean isValid()",
        "int firstError() IllegalStateException",
        "int undo() IllegalStateException",
        "int takeSnapshot()",
        "int restoreSnapshot() IllegalStateException",
        "int taskCount()",
        "int dependencyCount()",
        "int lengthOf(int) IndexOutOfBoundsException",
        "int crewsOf(int) IndexOutOfBoundsException",
        "int lagOf(int, int) IndexOutOfBoundsException NoSuchElementException",
        "boolean isAhead(int, int) IndexOutOfBoundsException",
        "int earliestStart(int) IndexOutOfBoundsException",
        "int latestStart(int) IndexOutOfBoundsException",
        "int planLength()",
        "int planLengthByRounds()",
        "int slack(int) IndexOutOfBoundsException",
        "int slackByChain(int) IndexOutOfBoundsException",
        "int freeSlack(int) IndexOutOfBoundsException",
        "int criticalTasks()",
        "long criticalChains()",
        "int longestHarmless(int) IndexOutOfBoundsException",
        "int delayOfPlan(int, int) IndexOutOfBoundsException IllegalArgumentException",
        "int delayBySlack(int, int) IndexOutOfBoundsException IllegalArgumentException",
        "int tasksMoved(int, int) IndexOutOfBoundsException IllegalArgumentException",
        "int scheduledStart(int) IndexOutOfBoundsException IllegalStateException",
        "int crewsOn(int) IllegalArgumentException IllegalStateException",
        "int scheduleLength() IllegalStateException",
        "int work()",
        "int workByDays() IllegalStateException",
        "int leastCrews() NoSuchElementException",
        "double usage() IllegalStateException",
        "int historySize()",
    };

    public static void main(String[] args) {
        Checks.holds("the class is public and final",
            Modifier.isPublic(SlackPlan.class.getModifiers()) && Modifier.isFinal(SlackPlan.class.getModifiers()));
        Set<String> seen = new TreeSet<>();
        Set<String> hidden = new TreeSet<>();
        for (Method method : SlackPlan.class.getDeclaredMethods()) {
            if (Modifier.isPrivate(method.getModifiers())) {
                hidden.add(method.getName());
            } else {
                seen.add(faceOf(method));
            }
        }
        Checks.same("the methods", seen.toString(), new TreeSet<>(Set.of(FACE)).toString());
        checkFields();
        checkConstructors();
        for (Class<?> inside : SlackPlan.class.getDeclaredClasses()) {
            Checks.holds(inside + " is static and not public", Modifier.isStatic(inside.getModifiers())
                && !Modifier.isPublic(inside.getModifiers()) && !Modifier.isProtected(inside.getModifiers()));
            for (Method method : inside.getDeclaredMethods()) {
                hidden.add(method.getName());
            }
        }
        for (String line : FACE) {
            String name = line.substring(line.indexOf(' ') + 1, line.indexOf('('));
            Checks.holds("a hidden method is called " + name + " too", !hidden.contains(name));
        }
        Checks.end();
    }

    private static void checkFields() {
        for (Field field : SlackPlan.class.getDeclaredFields()) {
            Checks.holds(field + " is private", Modifier.isPrivate(field.getModifiers()));
        }
    }

    private static void checkConstructors() {
        Constructor<?>[] constructors = SlackPlan.class.getDeclaredConstructors();
        Checks.same("the constructors", constructors.length, 1);
        Checks.same("the arguments of the constructor", constructors[0].getParameterCount(), 0);
        Checks.holds("the constructor is public", Modifier.isPublic(constructors[0].getModifiers()));
    }

    private static String faceOf(Method method) {
        StringBuilder face = new StringBuilder();
        face.append(method.getReturnType().getSimpleName()).append(' ').append(method.getName()).append('(');
        String gap = "";
        for (Class<?> type : method.getParameterTypes()) {
            face.append(gap).append(type.getSimpleName());
            gap = ", ";
        }
        face.append(')');
        for (Class<?> type : method.getExceptionTypes()) {
            face.append(' ').append(type.getSimpleName());
        }
        return face.toString();
    }
}
