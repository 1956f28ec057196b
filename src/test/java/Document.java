import java.io.IOException;
import java.nio.file.Files;
import java.nio.file.Path;
import java.util.ArrayList;
import java.util.LinkedHashMap;
import java.util.List;
import java.util.Map;

/** The document by its headings, each with its sentences; a sentence is cut at its semicolons too. */
final class Document {
    private static final Path FILE = Path.of("..", "shared", "DOC.md");

    private final Map<String, List<String>> sentences = new LinkedHashMap<>();

    static Document read() throws IOException {
        Document document = new Document();
        String heading = "";
        for (String line : Files.readAllLines(FILE)) {
            if (line.startsWith("## ")) {
                int colon = line.indexOf(':');
                heading = line.substring(3, colon < 0 ? line.length() : colon);
            } else if (!line.startsWith("#")) {
                document.add(heading, line.strip());
            }
        }
        return document;
    }

    private void add(String heading, String line) {
        boolean isSubheading = heading.equals("Terms") && !line.endsWith(".");
        if (line.isEmpty() || isSubheading) {
            return;
        }
        List<String> known = sentences.computeIfAbsent(heading, h -> new ArrayList<>());
        for (String sentence : line.split("(?<=\\.) |(?<=;) ")) {
            known.add(sentence);
        }
    }

    List<String> under(String heading) {
        return sentences.getOrDefault(heading, List.of());
    }
}
