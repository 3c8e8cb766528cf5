import java.io.IOException;
import java.lang.reflect.Field;
import java.lang.reflect.Modifier;
import java.nio.file.Files;
import java.nio.file.Path;
import java.util.List;
import java.util.regex.Matcher;
import java.util.regex.Pattern;

/** What of the rules of LANGUAGE.md shows in the text of the program; the argument is the project's root. */
public final class LanguageTests {
    private static final String[] SHUT_OUT = {
        "->", "::", "\\btry\\b", "\\bcatch\\b", "\\bfinally\\b", "\\bassert\\b", "\\bsynchronized\\b", "Exact\\(",
        "\\bequals\\b", "\\bhashCode\\b", "\\btoString\\b", "\\bvar\\b", "\\bpublic static\\b", "\\bprotected\\b",
        "Random", "Thread", "System\\.(?!arraycopy)", "Math\\.(?!max|min)", "Arrays\\.(?!fill|$)", "[^\\x20-\\x7e]",
        "^import (?!java\\.util\\.(Arrays|NoSuchElementException);)", "\\bObject\\b", "\" *\\+", "\\+ *\"",
    };
    private static final Pattern MADE = Pattern.compile("\\bnew (\\w+)");

    public static void main(String[] args) throws IOException {
        Path root = Path.of(args.length > 0 ? args[0] : ".");
        List<String> lines = Files.readAllLines(root.resolve("src/main/java/SlackPlan.java"));
        checkWords(lines);
        checkLengths(lines);
        checkRoom(lines);
        checkFields();
        Checks.end();
    }

    private static void checkWords(List<String> lines) {
        for (String line : lines) {
            String code = line.replaceFirst("//.*|^ */?\\*.*", "");
            for (String word : SHUT_OUT) {
                Checks.holds("shut out: " + word + " in " + line, !Pattern.compile(word).matcher(code).find());
            }
        }
    }

    private static void checkLengths(List<String> lines) {
        int begin = 0;
        for (int number = 0; number < lines.size(); number++) {
            String line = lines.get(number);
            if (line.matches(" {4}( {4})?[^ /*].*\\{")) {
                begin = number;
            }
            boolean method = line.matches(" {4}( {4})?\\}") && lines.get(begin).contains("(");
            Checks.holds("a method of over 60 lines ends at " + (number + 1), !method || number - begin < 60);
        }
    }

    /** All rooms are made with the object, so that no call makes anything but its exception. */
    private static void checkRoom(List<String> lines) {
        for (String line : lines) {
            Matcher made = MADE.matcher(line);
            boolean harmless = line.contains("throw new") || line.matches(" +(private )?final .*")
                || line.trim().equals("states[place] = new State();") || line.matches(" *(//|/?\\*).*");
            Checks.holds("made by a call: " + line, !made.find() || harmless);
        }
    }

    private static void checkFields() {
        checkFieldsOf(SlackPlan.class);
        Class<?>[] inside = SlackPlan.class.getDeclaredClasses();
        Checks.holds("over 12 classes", inside.length < 12);
        for (Class<?> each : inside) {
            checkFieldsOf(each);
        }
    }

    private static void checkFieldsOf(Class<?> owner) {
        int count = 0;
        for (Field field : owner.getDeclaredFields()) {
            boolean fixed = Modifier.isFinal(field.getModifiers());
            boolean ofAll = Modifier.isStatic(field.getModifiers());
            Checks.holds(field + " is static and can change", fixed || !ofAll);
            count += ofAll ? 0 : 1;
        }
        Checks.holds(owner + " has over 20 fields", count <= 20);
    }
}
