import java.io.IOException;
import java.nio.file.Files;
import java.nio.file.Path;
import java.util.ArrayList;
import java.util.HashMap;
import java.util.HashSet;
import java.util.List;
import java.util.Map;
import java.util.Set;
import java.util.regex.Matcher;
import java.util.regex.Pattern;

/**
 * The tests of src/test/edges.txt, each of a sentence of the document that names a boundary case.
 * How they are written stands there. Arguments: the file's path, the document's path.
 */
final class EdgesTest {
    private static final Pattern TITLE = Pattern.compile("== (.*) \\| (.*)");
    private static final Pattern NAMED = Pattern.compile("= (-?[A-Z0-9_]+): (.*)");
    private static final Pattern NAME = Pattern.compile("-?\\b[A-Z][A-Z0-9_]+\\b");
    private static final Pattern CELL = Pattern.compile("cell\\((.*)\\) -> (.*)");
    private static final String[] ROWS = {"wide", "narrow"};
    private static final int PROMISES_THAT_RETURN = 49;

    private final Dues dues = new Dues();
    private final Document document;
    private final Map<String, String> names = new HashMap<>();
    private final Set<String> told = new HashSet<>();
    private final List<String> lines = new ArrayList<>();
    private String title;
    private int tests;

    private EdgesTest(Document document) {
        this.document = document;
    }

    public static void main(String[] args) throws IOException {
        EdgesTest test = new EdgesTest(new Document(Path.of(args[1])));
        for (String line : Files.readAllLines(Path.of(args[0]))) {
            test.take(line);
        }
        test.run();
        test.holdThatAllReturnsAreTold();
        test.dues.end("EdgesTest, " + test.tests + " tests");
    }

    private void take(String line) {
        Matcher named = NAMED.matcher(line);
        if (line.isEmpty() || line.startsWith("#")) {
            return;
        }
        if (named.matches()) {
            names.put(named.group(1), named.group(2));
        } else if (line.startsWith("== ")) {
            run();
            title = line;
        } else {
            lines.add(line);
        }
    }

    /** Runs the test of which the title and all lines were taken. */
    private void run() {
        boolean isOfBothRows = String.join("\n", lines).contains("~");
        for (int row = 0; row < (isOfBothRows ? 2 : 1); row++) {
            if (title != null) {
                run(row, isOfBothRows ? ROWS[row] + ", " : "");
            }
        }
        lines.clear();
    }

    private void run(int row, String which) {
        Matcher parts = TITLE.matcher(title);
        if (!parts.matches()) {
            throw new IllegalStateException("no title: " + title);
        }
        String[] headings = parts.group(1).split(" / ");
        String heading = headings[headings.length == 1 ? 0 : row];
        String sentence = parts.group(2);
        String test = which + heading + " | " + sentence;
        dues.due("the document has: " + test, document.part(heading).contains(sentence), true);
        noteReturns(heading, sentence);
        Caller caller = new Caller(dues, test);
        for (String line : lines) {
            for (String call : ofRow(row, line)) {
                caller.take(call);
            }
        }
        tests++;
    }

    private void noteReturns(String heading, String sentence) {
        for (String line : document.part(heading).split("\n")) {
            if (line.startsWith("Returns ") && line.contains(sentence)) {
                told.add(heading);
            }
        }
    }

    private void holdThatAllReturnsAreTold() {
        for (int promise = 2; promise <= PROMISES_THAT_RETURN; promise++) {
            dues.due("what promise " + promise + " returns has a test", told.contains("Promise " + promise), true);
        }
    }

    /** The calls that a line tells for the WIDE row (0) or the NARROW one (1). */
    private List<String> ofRow(int row, String line) {
        if (line.startsWith(row == 0 ? "N: " : "W: ")) {
            return List.of();
        }
        String[] sides = line.replaceFirst("^[WN]: ", "").split(" -> ", 2);
        String call = withNames(row, sides[0])
            .replace("put~", row == 0 ? "putWide" : "putNarrow").replace("~", ROWS[row]);
        String whole = sides.length == 1 ? call : call + " -> " + withNames(row, ofRow(sides[1], row));
        Matcher cell = CELL.matcher(whole);
        return cell.matches() ? digitsOfCell(cell.group(1), cell.group(2).split(", ")) : List.of(whole);
    }

    private static List<String> digitsOfCell(String cells, String[] due) {
        if (due.length == 1) {
            return List.of("digits(" + cells + ") -> " + due[0]);
        }
        return List.of("upper(" + cells + ") -> " + due[0], "lower(" + cells + ") -> " + due[1]);
    }

    private String withNames(int row, String text) {
        return NAME.matcher(text).replaceAll(found -> ofRow(named(found.group()), row));
    }

    private String named(String name) {
        if (!names.containsKey(name)) {
            throw new IllegalStateException("no name: " + name);
        }
        return names.get(name);
    }

    /** "a | b" is a for the WIDE row, b for the NARROW one. */
    private static String ofRow(String text, int row) {
        String[] both = text.split(" \\| ");
        return both[both.length == 1 ? 0 : row];
    }
}
