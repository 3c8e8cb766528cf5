import java.io.IOException;
import java.nio.file.Files;
import java.nio.file.Path;
import java.util.Map;
import java.util.TreeMap;

/** The sentences of DOC.md: each test of an edge says which one it is for, and no edge may be left without a test. */
final class Document {
    private static final Map<String, String> SECTIONS = new TreeMap<>();
    // The same, with blanks where a test has quoted it.
    private static final Map<String, StringBuilder> LEFT = new TreeMap<>();
    private static int checksBefore = 0;
    private static boolean open = false;

    private Document() {
    }

    static void read(Path root) throws IOException {
        String text = Files.readString(root.resolve("../shared/DOC.md"));
        for (String section : text.split("(?m)^## ")) {
            int end = section.indexOf('\n');
            String title = end < 0 ? section : section.substring(0, end);
            String name = title.replaceFirst(":.*", "");
            SECTIONS.put(name, section.substring(Math.max(0, end)));
            LEFT.put(name, new StringBuilder(SECTIONS.get(name)));
        }
    }

    static void purpose(String sentence) {
        begin("What it is", sentence);
    }

    static void terms(String sentence) {
        begin("Terms", sentence);
    }

    static void promise(int number, String sentence) {
        begin("Promise " + number, sentence);
    }

    private static void begin(String section, String sentence) {
        close();
        Checks.about(section + ": " + sentence);
        String text = SECTIONS.getOrDefault(section, "");
        Checks.holds("the document does not say so", text.contains(sentence));
        for (int at = text.indexOf(sentence); at >= 0; at = text.indexOf(sentence, at + 1)) {
            LEFT.get(section).replace(at, at + sentence.length(), " ".repeat(sentence.length()));
        }
        checksBefore = Checks.count();
        open = true;
    }

    private static void close() {
        Checks.holds("this sentence was quoted and not tested", !open || Checks.count() > checksBefore);
        open = false;
    }

    /** Complains of each sentence of the terms, and of each argument's range, answer and exception, without a test. */
    static void checkNothingLeft() {
        close();
        Checks.about("");
        Checks.same("the promises in the document", SECTIONS.keySet().stream()
            .filter(title -> title.startsWith("Promise ")).count(), 42);
        for (Map.Entry<String, StringBuilder> section : LEFT.entrySet()) {
            boolean terms = section.getKey().equals("Terms");
            boolean promise = section.getKey().startsWith("Promise ");
            for (String line : section.getValue().toString().split("\n")) {
                boolean edge = terms && !isAside(line) || promise && namesAnEdge(line);
                Checks.holds("without a test: " + section.getKey() + ": " + line, !edge);
            }
        }
    }

    /** Headings, and lines that tell no more than how the document is built. */
    private static boolean isAside(String line) {
        return line.isBlank() || line.trim().equals(line.trim().toUpperCase())
            || line.startsWith("Ahead of the calls ") || line.startsWith("The class finds ");
    }

    private static boolean namesAnEdge(String line) {
        return line.startsWith("Throws ") || line.startsWith("Returns ") || line.matches("- `\\w+`: .*\\d.*");
    }
}
