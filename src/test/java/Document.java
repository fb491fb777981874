import java.io.IOException;
import java.nio.file.Files;
import java.nio.file.Path;
import java.util.LinkedHashMap;
import java.util.Map;

/** DOC.md, part by part: what stands below each of its headings. */
final class Document {
    private final Map<String, String> parts = new LinkedHashMap<>();

    Document(Path path) throws IOException {
        String heading = "";
        for (String line : Files.readAllLines(path)) {
            if (line.matches("(#+|==) .*")) {
                heading = line.replaceFirst("\\S+ ", "");
            }
            parts.merge(heading, line + "\n", String::concat);
        }
    }

    /** What stands below the heading that begins so. */
    String part(String beginning) {
        for (String heading : parts.keySet()) {
            if (heading.equals(beginning) || heading.startsWith(beginning + ":")) {
                return parts.get(heading);
            }
        }
        return "";
    }
}
