import java.io.IOException;
import java.nio.file.Files;
import java.nio.file.Path;
import java.nio.file.Paths;
import java.util.List;
import java.util.stream.Collectors;
import java.util.stream.Stream;

/**
 * Runs of calls under src/test/runs, a line each: the call's name, what it is given, and the answer that is due. They
 * were recorded from a third telling of the document, which is not kept here. Promises 1 to 41.
 */
public final class RecordedTest {
    private static final int MOST_CALLS = 512;

    public static void main(String[] args) throws IOException, ReflectiveOperationException {
        List<Path> runs;
        try (Stream<Path> files = Files.list(Paths.get("src/test/runs"))) {
            runs = files.sorted().collect(Collectors.toList());
        }
        Check.due("there are runs", runs.isEmpty(), false);
        for (Path run : runs) {
            replay(run);
        }
        Check.end();
    }

    private static void replay(Path run) throws IOException, ReflectiveOperationException {
        InchBorders x = new InchBorders();
        List<String> lines = Files.readAllLines(run);
        Check.due(run + " has more calls than an object is used for", lines.size() > MOST_CALLS, false);
        for (int i = 0; i < lines.size(); i++) {
            String[] told = lines.get(i).split(" : ");
            String[] words = told[0].split(" ");
            String[] given = new String[words.length - 1];
            System.arraycopy(words, 1, given, 0, given.length);
            Check.due(run + " line " + (i + 1) + ": " + told[0], Check.called(x, words[0], given), told[1]);
        }
    }
}
