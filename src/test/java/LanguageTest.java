import java.io.IOException;
import java.nio.file.Files;
import java.nio.file.Path;
import java.util.regex.Matcher;
import java.util.regex.Pattern;

/** Some of the rules of LANGUAGE.md that a reader of the text can hold. Argument: the program's path. */
final class LanguageTest {
    private static final String[] RULED_OUT = {
        "^\\s*package\\b", "^\\s*import\\b", "->", "::", "\\bDouble\\b", "\\bFloat\\b", "\\bBoolean\\b", "\\bObject\\b",
        "\\bdouble\\b", "\\bfloat\\b", "\\bcatch\\b", "\\bfinally\\b", "\\bsynchronized\\b", "\\bassert\\b", "\\bvar\\b",
        "Exact\\(", "\\bString\\.", "\\bjava\\.", "\\bSystem\\.(?!arraycopy)", "\"\\s*\\+", "\\+\\s*\"",
        "\\b(equals|hashCode|toString)\\s*\\([^)]*\\)\\s*\\{", "[^\\x00-\\x7F]"};

    public static void main(String[] args) throws IOException {
        Dues dues = new Dues();
        String program = withoutComments(Files.readString(Path.of(args[0])));
        for (String ruledOut : RULED_OUT) {
            Matcher found = Pattern.compile(ruledOut, Pattern.MULTILINE).matcher(program);
            dues.due("search for " + ruledOut, found.find() ? found.group() : "nothing", "nothing");
        }
        dues.end("LanguageTest");
    }

    private static String withoutComments(String program) {
        return program.replaceAll("(?s)/\\*.*?\\*/", "").replaceAll("//[^\n]*", "");
    }
}
