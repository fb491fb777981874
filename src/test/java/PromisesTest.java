import java.io.IOException;
import java.lang.reflect.InvocationTargetException;
import java.lang.reflect.Method;
import java.nio.file.Files;
import java.nio.file.Path;
import java.util.regex.Matcher;
import java.util.regex.Pattern;

/** Makes the calls that a file tells, promise by promise, and holds the answers. Argument: the file's path. */
final class PromisesTest {
    private static final int PROMISES = 50;
    private static final int MOST_CALLS = 512;
    private static final Pattern TITLE = Pattern.compile("== Promise (\\d+): .*");
    private static final Pattern CALL = Pattern.compile("(\\w+)\\((.*?)\\)(?: -> (?:throws (\\w+)|(.+)))?");

    private final Dues dues = new Dues();
    private Edgefloats subject;
    private int promise;
    private int calls;

    public static void main(String[] args) throws IOException, ReflectiveOperationException {
        PromisesTest test = new PromisesTest();
        for (String line : Files.readAllLines(Path.of(args[0]))) {
            test.take(line);
        }
        test.dues.due("the last promise", test.promise, PROMISES);
        test.dues.end("PromisesTest");
    }

    private void take(String line) throws ReflectiveOperationException {
        Matcher title = TITLE.matcher(line);
        Matcher call = CALL.matcher(line);
        if (title.matches()) {
            promise++;
            calls = 0;
            subject = new Edgefloats();
            dues.due("the promise of the title " + line, Integer.parseInt(title.group(1)), promise);
        } else if (call.matches()) {
            hold(line, call);
        } else if (!line.isEmpty() && !line.startsWith("#")) {
            throw new IllegalStateException("no call: " + line);
        }
    }

    private void hold(String line, Matcher call) throws ReflectiveOperationException {
        String told = "promise " + promise + ": " + line;
        if (call.group(3) != null) {
            Object before = answer("digest", "");
            dues.due(told, answer(call.group(1), call.group(2)), "throws " + call.group(3));
            dues.due(told + ", digest() behind it", answer("digest", ""), before);
            return;
        }
        Object got = answer(call.group(1), call.group(2));
        if (call.group(4) != null) {
            dues.due(told, got instanceof String ? "\"" + got + "\"" : "" + got, call.group(4));
        }
    }

    private Object answer(String name, String listed) throws ReflectiveOperationException {
        calls++;
        if (calls > MOST_CALLS) {
            throw new IllegalStateException("too many calls on one object: promise " + promise);
        }
        String[] texts = listed.isEmpty() ? new String[0] : listed.split(", ");
        Object[] arguments = new Object[texts.length];
        for (int i = 0; i < texts.length; i++) {
            arguments[i] = argument(texts[i]);
        }
        try {
            return method(name).invoke(subject, arguments);
        } catch (InvocationTargetException e) {
            return "throws " + e.getCause().getClass().getSimpleName();
        }
    }

    private static Object argument(String text) {
        if (text.equals("true") || text.equals("false")) {
            return text.equals("true");
        }
        return text.startsWith("0x") ? Integer.parseUnsignedInt(text.substring(2), 16) : Integer.parseInt(text);
    }

    private static Method method(String name) {
        for (Method method : Edgefloats.class.getMethods()) {
            if (method.getName().equals(name)) {
                return method;
            }
        }
        throw new IllegalStateException("no method " + name);
    }
}
