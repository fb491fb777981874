import java.io.IOException;
import java.lang.reflect.Method;
import java.lang.reflect.Parameter;
import java.nio.file.Path;
import java.util.ArrayList;
import java.util.List;
import java.util.regex.Matcher;
import java.util.regex.Pattern;

/**
 * A test for each sentence of the document that tells when an exception is thrown: what is just
 * too small, too large or far off throws, and changes nothing; the least and the greatest that
 * are let do not. The bounds are read in the document. Argument: the document's path.
 */
final class ThrowsTest {
    private static final int PROMISES = 50;
    private static final Pattern METHOD = Pattern.compile("`\\w+ (\\w+)\\(.*?\\)(?: throws (.*))?`");
    private static final Pattern SENTENCE = Pattern.compile("Throws `(\\w+)` if (\\w+) is not (-?\\d+) (?:to|or) (-?\\d+)");
    private static final List<String> CELLS = List.of("cell", "into", "one", "other");

    /** What one sentence tells of a method. */
    private static final class Bounds {
        private final Method method;
        private final String exception;
        private final String named;
        private final int least;
        private final int greatest;

        private Bounds(Method method, Matcher sentence) {
            this.method = method;
            exception = sentence.group(1);
            named = sentence.group(2);
            least = Integer.parseInt(sentence.group(3));
            greatest = Integer.parseInt(sentence.group(4));
        }

        /** Where the arguments stand that it tells of: of cells it tells of all that the method takes. */
        private List<Integer> places() {
            List<Integer> places = new ArrayList<>();
            Parameter[] parameters = method.getParameters();
            for (int i = 0; i < parameters.length; i++) {
                String name = parameters[i].getName();
                if (CELLS.contains(named) ? CELLS.contains(name) : named.equals(name)) {
                    places.add(i);
                }
            }
            return places;
        }

        private int[] refused() {
            return new int[] {least - 1, greatest + 1, Integer.MIN_VALUE, Integer.MAX_VALUE};
        }

        private int[] let() {
            return new int[] {least, greatest};
        }
    }

    private final Dues dues = new Dues();
    private final Document document;
    private int sentences;

    private ThrowsTest(Document document) {
        this.document = document;
    }

    public static void main(String[] args) throws IOException {
        ThrowsTest test = new ThrowsTest(new Document(Path.of(args[0])));
        for (int promise = 2; promise <= PROMISES; promise++) {
            test.hold("Promise " + promise);
        }
        test.dues.end("ThrowsTest, " + test.sentences + " sentences");
    }

    private void hold(String promise) {
        String part = document.part(promise);
        Matcher method = METHOD.matcher(part);
        if (!method.find()) {
            throw new IllegalStateException("no method: " + promise);
        }
        List<Bounds> all = new ArrayList<>();
        List<String> exceptions = new ArrayList<>();
        Matcher sentence = SENTENCE.matcher(part);
        while (sentence.find()) {
            all.add(new Bounds(Caller.method(method.group(1)), sentence));
            exceptions.add(sentence.group(1));
        }
        String signed = method.group(2) == null ? "" : method.group(2);
        dues.due(promise + ", its exceptions", String.join(", ", exceptions), signed);
        for (Bounds bounds : all) {
            hold(promise, bounds);
        }
        if (all.size() == 2) {
            holdFirstOfBoth(promise, all.get(0), all.get(1));
        }
    }

    private void hold(String promise, Bounds bounds) {
        String test = promise + ", " + bounds.exception + " if " + bounds.named + " is not "
            + bounds.least + " to " + bounds.greatest;
        dues.due(test + ", it has such an argument", bounds.places().isEmpty(), false);
        for (int place : bounds.places()) {
            for (int refused : bounds.refused()) {
                holdThrow(test, bounds, withOne(arguments(bounds.method), place, refused));
            }
            for (int let : bounds.let()) {
                Object[] arguments = withOne(arguments(bounds.method), place, let);
                Object got = Caller.outcome(bounds.method, used(), arguments);
                dues.due(told(test, bounds, arguments) + " throws", ("" + got).startsWith("throws "), false);
            }
        }
        sentences++;
    }

    /** If several exceptions apply, the one that is named first is thrown. */
    private void holdFirstOfBoth(String promise, Bounds first, Bounds second) {
        for (int place : first.places()) {
            for (int refused : first.refused()) {
                for (int other : second.places()) {
                    for (int refusedToo : second.refused()) {
                        Object[] arguments = withOne(arguments(first.method), place, refused);
                        holdThrow(promise + ", the first of two exceptions", first, withOne(arguments, other, refusedToo));
                    }
                }
            }
        }
    }

    private void holdThrow(String test, Bounds bounds, Object[] arguments) {
        Edgefloats subject = used();
        long before = subject.digest();
        String told = told(test, bounds, arguments);
        dues.due(told, Caller.outcome(bounds.method, subject, arguments), "throws " + bounds.exception);
        dues.due(told + ", digest() behind it", subject.digest(), before);
    }

    private static String told(String test, Bounds bounds, Object[] arguments) {
        return test + ": " + bounds.method.getName() + java.util.Arrays.toString(arguments);
    }

    /** Arguments that are let: 0 is a cell, a choice, a number of quarters and digits. */
    private static Object[] arguments(Method method) {
        Object[] arguments = new Object[method.getParameterCount()];
        for (int i = 0; i < arguments.length; i++) {
            arguments[i] = method.getParameterTypes()[i] == boolean.class ? (Object) false : (Object) 0;
        }
        return arguments;
    }

    private static Object[] withOne(Object[] arguments, int place, int argument) {
        arguments[place] = argument;
        return arguments;
    }

    /** An object of which each cell has another NUMBER, not in ORDER, so that no change goes unseen. */
    private static Edgefloats used() {
        Edgefloats subject = new Edgefloats();
        for (int cell = 0; cell < 8; cell++) {
            subject.wideQuarters(cell, 7 - 3 * cell);
            subject.narrowQuarters(cell, 8 - 3 * cell);
        }
        subject.wideKnown(2, 2);
        subject.narrowKnown(5, 1);
        subject.knock();
        return subject;
    }
}
