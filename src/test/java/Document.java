import java.io.IOException;
import java.nio.file.Files;
import java.nio.file.Path;
import java.util.Set;
import java.util.TreeSet;

/** The sentences of ../shared/DOC.md that tell what the class does, each behind the name of its part. */
final class Document {
    private static final Path FILE = Path.of("..", "shared", "DOC.md");

    private final Set<String> sentences = new TreeSet<>();
    private String part = "";
    private boolean inCode;

    private Document() {
    }

    static Set<String> sentences() throws IOException {
        Document document = new Document();
        for (String line : Files.readAllLines(FILE)) {
            document.read(line);
        }
        return document.sentences;
    }

    private void read(String line) {
        if (line.startsWith("```")) {
            inCode = !inCode;
        } else if (line.startsWith("#")) {
            part = partOf(line);
        } else if (!inCode && tellsOfAnswers(line)) {
            split(line);
        }
    }

    private static String partOf(String heading) {
        String name = heading.replaceFirst("^#+ ", "");
        return name.startsWith("Promise ") ? name.replaceFirst(":.*", "") : name;
    }

    /** Not what the document is about, where the interface has its comments, or what is not promised. */
    private boolean tellsOfAnswers(String line) {
        return !line.isBlank() && !part.equals("Not promised") && !line.startsWith("A kart cup:")
                && !line.startsWith("Ahead of the calls");
    }

    private void split(String line) {
        String text = part.startsWith("Promise ") ? line.replaceFirst("^`[^`]*`: ", "") : line;
        for (String sentence : text.split("(?<=[.;]) ")) {
            if (sentence.contains(" ")) {
                sentences.add(part + ": " + sentence);
            }
        }
    }
}
