import java.io.IOException;
import java.nio.file.Files;
import java.nio.file.Path;
import java.util.regex.Matcher;
import java.util.regex.Pattern;

/** Makes the calls that a file tells, promise by promise, and holds the answers. Argument: the file's path. */
final class PromisesTest {
    private static final int PROMISES = 50;
    private static final Pattern TITLE = Pattern.compile("== Promise (\\d+): .*");

    private final Dues dues = new Dues();
    private Caller caller;
    private int promise;

    public static void main(String[] args) throws IOException {
        PromisesTest test = new PromisesTest();
        for (String line : Files.readAllLines(Path.of(args[0]))) {
            test.take(line);
        }
        test.dues.due("the last promise", test.promise, PROMISES);
        test.dues.end("PromisesTest");
    }

    private void take(String line) {
        Matcher title = TITLE.matcher(line);
        if (title.matches()) {
            promise++;
            caller = new Caller(dues, "promise " + promise);
            dues.due("the promise of the title " + line, Integer.parseInt(title.group(1)), promise);
        } else if (!line.isEmpty() && !line.startsWith("#")) {
            caller.take(line);
        }
    }
}
