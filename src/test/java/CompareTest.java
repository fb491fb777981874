import java.lang.reflect.Method;
import java.lang.reflect.Modifier;
import java.lang.reflect.Parameter;
import java.util.ArrayList;
import java.util.Arrays;
import java.util.Comparator;
import java.util.List;
import java.util.Random;

/** Long runs of calls, the same each time, on Edgefloats and on the Model: all answers are held against each other. */
final class CompareTest {
    private static final int RUNS = 400;
    private static final int CALLS = 512;
    private static final int[] UPPERS = {0, 1, 0x000FFFFF, 0x00100000, 0x3FD00000, 0x3FE00000, 0x3FC00000, 0x3FF00000,
        0x40080000, 0x41ADCD65, 0x41B00000, 0x41F00000, 0x7FE00000, 0x7FEFFFFF, 0x7FF00000, 0x7FF80000, 0x7FFFFFFF};
    private static final int[] LOWERS = {0, 0, 0, 0, 1, -1, Integer.MIN_VALUE, Integer.MAX_VALUE, 0x20000000, 0x40000000};
    private static final int[] NARROWS = {0, 1, 0x007FFFFF, 0x00800000, 0x3E000000, 0x3E800000, 0x3E800001, 0x3F000000,
        0x3F800000, 0x4A742400, 0x4A742401, 0x4A800000, 0x4AF42400, 0x7F7FFFFF, 0x7F800000, 0x7F800001, 0x7FC00000, 0x7FFFFFFF};
    private static final int[] QUARTERS = {0, 0, 1, 2, 3, 4, 7, 999999999, 1000000000, 1000000001, 500000000, 500000001,
        15999999, 16000000, 16000001, 8000000, 8000001, 8388608, 16777216, 536870912, Integer.MAX_VALUE, Integer.MIN_VALUE};

    private final Random random;

    private CompareTest(int seed) {
        random = new Random(seed);
    }

    public static void main(String[] args) throws ReflectiveOperationException {
        Dues dues = new Dues();
        List<Method> face = new ArrayList<>();
        for (Method method : Edgefloats.class.getDeclaredMethods()) {
            if (Modifier.isPublic(method.getModifiers())) {
                face.add(method);
            }
        }
        face.sort(Comparator.comparing(Method::getName));
        for (int run = 0; run < RUNS; run++) {
            new CompareTest(run).run(dues, run, face);
        }
        dues.end("CompareTest");
    }

    private void run(Dues dues, int run, List<Method> face) throws ReflectiveOperationException {
        Edgefloats subject = new Edgefloats();
        Model model = new Model();
        Method digest = Edgefloats.class.getMethod("digest");
        // a digest behind each call in every second run tells at once which call went wrong
        int step = run % 2 == 0 ? 2 : 1;
        for (int call = 0; call < CALLS; call += step) {
            Method method = face.get(random.nextInt(face.size()));
            hold(dues, run, subject, model, method, arguments(method));
            if (step == 2) {
                hold(dues, run, subject, model, digest, new Object[0]);
            }
        }
    }

    private static void hold(Dues dues, int run, Edgefloats subject, Model model, Method method, Object[] arguments)
            throws ReflectiveOperationException {
        Method twin = Model.class.getMethod(method.getName(), method.getParameterTypes());
        String call = "run " + run + ": " + method.getName() + Arrays.toString(arguments);
        dues.due(call, Caller.outcome(method, subject, arguments), Caller.outcome(twin, model, arguments));
    }

    private Object[] arguments(Method method) {
        Parameter[] parameters = method.getParameters();
        Object[] arguments = new Object[parameters.length];
        for (int i = 0; i < arguments.length; i++) {
            arguments[i] = argument(parameters[i].getName());
        }
        return arguments;
    }

    private Object argument(String name) {
        switch (name) {
            case "cell":
            case "into":
            case "one":
            case "other":
                return few(-1, 8, 8);
            case "how":
                return few(-1, 3, 3);
            case "what":
                return few(-1, 4, 4);
            case "which":
                return few(-1, 7, 7);
            case "isGreatest":
            case "isLast":
            case "orLike":
                return random.nextBoolean();
            case "upper":
                return any(UPPERS) ^ (random.nextBoolean() ? Integer.MIN_VALUE : 0);
            case "lower":
                return any(LOWERS);
            case "digits":
                return any(NARROWS) ^ (random.nextBoolean() ? Integer.MIN_VALUE : 0);
            case "quarters":
                return any(QUARTERS) * (random.nextBoolean() ? 1 : -1);
            default:
                throw new IllegalStateException("no arguments are known for " + name + " (compile with -parameters)");
        }
    }

    /** Mostly one of 0 to count - 1, now and then the bound before or behind, or one far off. */
    private int few(int before, int count, int behind) {
        int[] off = {before, behind, Integer.MIN_VALUE, Integer.MAX_VALUE};
        return random.nextInt(30) == 0 ? off[random.nextInt(off.length)] : random.nextInt(count);
    }

    private int any(int[] pool) {
        int chosen = pool[random.nextInt(pool.length)];
        return random.nextInt(8) == 0 ? random.nextInt() >> random.nextInt(32) : chosen;
    }
}
