import java.lang.reflect.InvocationTargetException;
import java.lang.reflect.Method;
import java.util.ArrayList;
import java.util.List;
import java.util.regex.Matcher;
import java.util.regex.Pattern;

/**
 * Makes calls on one new object as lines of text tell them, and holds the answers. How a line is
 * written stands at the begin of src/test/edges.txt (what is told there of ~, W:, N:, cell and
 * NAME is EdgesTest's).
 */
final class Caller {
    private static final int MOST_CALLS = 512;
    private static final Pattern LINE = Pattern.compile("(?:(\\d+) x )?(\\w+)\\((.*?)\\)(?: -> (.+))?");

    private final Edgefloats subject = new Edgefloats();
    private final Dues dues;
    private final String test;
    private int calls;

    Caller(Dues dues, String test) {
        this.dues = dues;
        this.test = test;
    }

    void take(String line) {
        Matcher parts = LINE.matcher(line);
        if (!parts.matches()) {
            throw new IllegalStateException("no call: " + line);
        }
        int times = parts.group(1) == null ? 1 : Integer.parseInt(parts.group(1));
        for (String arguments : eachOf(parts.group(3))) {
            for (int time = 0; time < times; time++) {
                hold(parts.group(2), arguments, parts.group(4));
            }
        }
    }

    /** "0/7, 1" is "0, 1", and then "7, 1". */
    private static List<String> eachOf(String arguments) {
        int slash = arguments.indexOf('/');
        if (slash < 0) {
            return List.of(arguments);
        }
        int begin = arguments.lastIndexOf(' ', slash) + 1;
        int comma = arguments.indexOf(',', slash);
        int end = comma < 0 ? arguments.length() : comma;
        List<String> each = new ArrayList<>();
        for (String choice : arguments.substring(begin, end).split("/")) {
            each.addAll(eachOf(arguments.substring(0, begin) + choice + arguments.substring(end)));
        }
        return each;
    }

    private void hold(String name, String arguments, String due) {
        String told = test + ": " + name + "(" + arguments + ")";
        if (due == null) {
            answer(name, arguments);
        } else if (due.equals("refused")) {
            Object before = answer("digest", "");
            dues.due(told, answer(name, arguments), -9);
            dues.due(told + ", digest() behind it", answer("digest", ""), withOneRefusalMore(before));
        } else if (due.startsWith("throws ")) {
            Object before = answer("digest", "");
            dues.due(told, answer(name, arguments), due);
            dues.due(told + ", digest() behind it", answer("digest", ""), before);
        } else {
            Object got = answer(name, arguments);
            dues.due(told, got instanceof String ? "\"" + got + "\"" : "" + got, inDecimals(due));
        }
    }

    /** How often -9 was told is the third last of what digest() takes in. */
    private static Object withOneRefusalMore(Object digest) {
        return digest instanceof Long ? (Long) digest + 31 * 31 : digest;
    }

    private static String inDecimals(String due) {
        return due.startsWith("0x") ? "" + argument(due) : due;
    }

    private Object answer(String name, String listed) {
        calls++;
        if (calls > MOST_CALLS) {
            throw new IllegalStateException("too many calls on one object: " + test);
        }
        String[] texts = listed.isEmpty() ? new String[0] : listed.split(", ");
        Object[] arguments = new Object[texts.length];
        for (int i = 0; i < texts.length; i++) {
            arguments[i] = argument(texts[i]);
        }
        return outcome(method(name), subject, arguments);
    }

    private static Object argument(String text) {
        if (text.equals("true") || text.equals("false")) {
            return text.equals("true");
        }
        return text.startsWith("0x") ? Integer.parseUnsignedInt(text.substring(2), 16) : Integer.parseInt(text);
    }

    /** What the method answers, or "throws .." if it throws. */
    static Object outcome(Method method, Object on, Object... arguments) {
        try {
            return method.invoke(on, arguments);
        } catch (InvocationTargetException e) {
            return "throws " + e.getCause().getClass().getSimpleName();
        } catch (IllegalAccessException e) {
            throw new IllegalStateException(e);
        }
    }

    static Method method(String name) {
        for (Method method : Edgefloats.class.getMethods()) {
            if (method.getName().equals(name)) {
                return method;
            }
        }
        throw new IllegalStateException("no method " + name);
    }
}
