import java.io.ByteArrayOutputStream;
import java.io.IOException;
import java.io.PrintStream;
import java.lang.reflect.Method;
import java.lang.reflect.Modifier;
import java.nio.file.Files;
import java.nio.file.Path;
import java.util.regex.Matcher;
import java.util.regex.Pattern;

/** What README.md says is so; the argument is the project's root. */
public final class ReadmeTests {
    private static final Pattern FILE = Pattern.compile("[\\w./]+\\.(java|md)\\b");
    private static final Pattern TEST = Pattern.compile("\\b[A-Z]\\w*Tests\\b");

    public static void main(String[] args) throws IOException {
        Path root = Path.of(args.length > 0 ? args[0] : ".");
        String readme = Files.readString(root.resolve("README.md"));
        Checks.same("the example in README.md", block(readme, "java"),
            Files.readString(root.resolve("src/test/java/Example.java")));
        Checks.same("what the example prints", block(readme, "text"), printed());
        checkEachCallIsTold(readme);
        checkEachNameIsThere(root, readme);
        Checks.end();
    }

    private static String block(String readme, String kind) {
        Matcher block = Pattern.compile("(?s)```" + kind + "\n(.*?)```").matcher(readme);
        return block.find() ? block.group(1) : "";
    }

    private static String printed() {
        PrintStream before = System.out;
        ByteArrayOutputStream seen = new ByteArrayOutputStream();
        System.setOut(new PrintStream(seen));
        try {
            Example.main(new String[0]);
        } finally {
            System.out.flush();
            System.setOut(before);
        }
        return seen.toString().replace(System.lineSeparator(), "\n");
    }

    /** Each call stands in the tables of calls, with as many arguments as it takes. */
    private static void checkEachCallIsTold(String readme) {
        for (Method method : SlackPlan.class.getDeclaredMethods()) {
            if (Modifier.isPublic(method.getModifiers())) {
                int arguments = method.getParameterCount();
                String list = arguments == 0 ? "" : "\\w+(, \\w+){" + (arguments - 1) + "}";
                Pattern row = Pattern.compile("(?m)^\\| `" + method.getName() + "\\(" + list + "\\)`");
                Checks.holds("README.md does not tell of " + method.getName(), row.matcher(readme).find());
            }
        }
    }

    /** A file stands where README.md says, or, named alone, among the tests. */
    private static void checkEachNameIsThere(Path root, String readme) {
        Path tests = root.resolve("src/test/java");
        for (Matcher file = FILE.matcher(readme); file.find();) {
            boolean there = Files.exists(root.resolve(file.group())) || Files.exists(tests.resolve(file.group()));
            Checks.holds("README.md names a file that is not there: " + file.group(), there);
        }
        for (Matcher test = TEST.matcher(readme); test.find();) {
            Checks.holds("README.md names a test that is not there: " + test.group(),
                Files.exists(tests.resolve(test.group() + ".java")));
        }
    }
}
