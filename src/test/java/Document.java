import java.io.IOException;
import java.io.UncheckedIOException;
import java.nio.file.Files;
import java.nio.file.Path;
import java.util.ArrayList;
import java.util.LinkedHashMap;
import java.util.List;
import java.util.Map;

/** The document by its headings, each with its lines; a line is a paragraph, or a point of a list without its dash. */
final class Document {
    private static final Path FILE = Path.of("..", "shared", "DOC.md");

    private final Map<String, List<String>> lines = new LinkedHashMap<>();

    static Document read() {
        Document document = new Document();
        String heading = "";
        for (String line : linesOfTheFile()) {
            if (line.startsWith("## ")) {
                int colon = line.indexOf(':');
                heading = line.substring(3, colon < 0 ? line.length() : colon);
            } else if (!line.startsWith("#") && !isSubheading(heading, line)) {
                document.lines.computeIfAbsent(heading, h -> new ArrayList<>()).add(line.replaceFirst("^- ", "").strip());
            }
        }
        return document;
    }

    private static List<String> linesOfTheFile() {
        try {
            return Files.readAllLines(FILE);
        } catch (IOException e) {
            throw new UncheckedIOException(e);
        }
    }

    /** Some subheadings of the terms are written without a sign ahead of them; a sentence has an end. */
    private static boolean isSubheading(String heading, String line) {
        return line.isBlank() || heading.equals("Terms") && !line.endsWith(".");
    }

    List<String> under(String heading) {
        return lines.getOrDefault(heading, List.of());
    }
}
