import java.io.IOException;
import java.io.UncheckedIOException;
import java.nio.file.Files;
import java.nio.file.Path;
import java.util.ArrayList;
import java.util.List;

/** The sentences of ../shared/DOC.md, without the listing of the face. */
final class Document {
    /** A section is told by its heading up to the colon, a text without its signature or dash. */
    record Sentence(String section, String text) {
    }

    private static final Path FILE = Path.of("..", "shared", "DOC.md");
    private static final String LISTING = "The public face";
    private static final String BETWEEN_SENTENCES = "(?<=[.]) (?=[A-Z])";
    private static final String SIGNATURE = "^`[^`]*\\)[^`]*`: ";
    private static final String DASH = "^- ";

    private Document() {
    }

    static List<Sentence> sentences() {
        List<Sentence> found = new ArrayList<>();
        String section = "";
        for (String line : lines()) {
            if (line.startsWith("## ")) {
                section = line.substring(3).split(":")[0];
            } else if (!line.isBlank() && !line.startsWith("# ") && !section.equals(LISTING)) {
                String plain = line.replaceFirst(SIGNATURE, "").replaceFirst(DASH, "");
                for (String text : plain.split(BETWEEN_SENTENCES)) {
                    found.add(new Sentence(section, text));
                }
            }
        }
        return found;
    }

    private static List<String> lines() {
        try {
            return Files.readAllLines(FILE);
        } catch (IOException e) {
            throw new UncheckedIOException(e);
        }
    }
}
