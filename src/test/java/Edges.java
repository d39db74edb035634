import java.io.IOException;
import java.nio.file.Files;
import java.nio.file.Path;
import java.util.ArrayList;
import java.util.List;

/** Tests that each bear a sentence of the document; a sentence that the document does not say is told as a fault. */
abstract class Edges extends Check {
    private static final Path DOCUMENT = Path.of("../shared/DOC.md");
    private static final List<String> STARTS = List.of("Throws ", "Returns ", "- `");

    private static List<String> lines = List.of();
    private static final List<String> borne = new ArrayList<>();
    private static String section = "";
    private static int edges = 0;

    /** What follows bears sentences from below the document's heading that begins like this. */
    static void section(String heading) {
        leaveSection();
        section = heading;
        lines = linesBelow(heading);
        borne.clear();
        at(heading);
        due("whether the document has lines below the heading", lines.isEmpty(), false);
    }

    static void edge(String sentence, Runnable test) {
        edges++;
        at(section + ", \"" + sentence + "\"");
        borne.add(sentence);
        due("whether the document says so", lines.stream().anyMatch(line -> line.contains(sentence)), true);
        try {
            test.run();
        } catch (RuntimeException e) {
            tell("the test is cut off by " + e);
        }
    }

    static void endOfEdges() {
        leaveSection();
        end(edges + " sentences");
    }

    /** Each line that says what a call takes, returns or throws must be borne by a test, at least in part. */
    private static void leaveSection() {
        at(section);
        for (String line : lines) {
            boolean bound = STARTS.stream().anyMatch(line::startsWith);
            if (bound && borne.stream().noneMatch(line::contains)) {
                tell("no test bears \"" + line + "\"");
            }
        }
    }

    private static List<String> linesBelow(String heading) {
        List<String> below = new ArrayList<>();
        boolean inside = false;
        for (String line : document()) {
            if (line.startsWith("#")) {
                String title = line.replaceFirst("^#+ ", "");
                inside = title.equals(heading) || title.startsWith(heading + ":");
            } else if (inside && !line.isBlank()) {
                below.add(line);
            }
        }
        return below;
    }

    private static List<String> document() {
        try {
            return Files.readAllLines(DOCUMENT);
        } catch (IOException e) {
            throw new IllegalStateException("the document can't be read", e);
        }
    }
}
