import java.io.IOException;
import java.nio.file.Path;

/** Each sentence of the document that names an edge has a test of its own; the argument is the project's root. */
public final class EdgeTests {
    public static void main(String[] args) throws IOException {
        Document.read(Path.of(args.length > 0 ? args[0] : "."));
        TaskEdges.run();
        DayEdges.run();
        CrewEdges.run();
        TextEdges.run();
        HistoryEdges.run();
        RefusalEdges.run();
        Document.checkNothingLeft();
        Checks.end();
    }
}
