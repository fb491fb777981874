import java.io.IOException;
import java.lang.reflect.Constructor;
import java.lang.reflect.Method;
import java.lang.reflect.Modifier;
import java.lang.reflect.Parameter;
import java.nio.file.Files;
import java.nio.file.Path;
import java.util.ArrayList;
import java.util.Collections;
import java.util.List;

/** The public face is just the one that the document writes. Argument: the document's path. */
final class FaceTest {
    public static void main(String[] args) throws IOException {
        Dues dues = new Dues();
        dues.due("the members that all may see", faceOfClass(), faceOfDocument(Path.of(args[0])));
        dues.due("public final", Edgefloats.class.getModifiers(), Modifier.PUBLIC | Modifier.FINAL);
        dues.due("fields that all may see", Edgefloats.class.getFields().length, 0);
        dues.end("FaceTest");
    }

    private static List<String> faceOfDocument(Path document) throws IOException {
        List<String> face = new ArrayList<>();
        for (String line : Files.readAllLines(document)) {
            if (line.startsWith("    public ")) {
                face.add(line.trim().replace("public ", "").replace(";", ""));
            }
        }
        Collections.sort(face);
        return face;
    }

    private static List<String> faceOfClass() {
        List<String> face = new ArrayList<>();
        for (Constructor<?> made : Edgefloats.class.getDeclaredConstructors()) {
            if (!Modifier.isPrivate(made.getModifiers())) {
                face.add(made.getName() + parameters(made.getParameters()) + exceptions(made.getExceptionTypes()));
            }
        }
        for (Method method : Edgefloats.class.getDeclaredMethods()) {
            if (!Modifier.isPrivate(method.getModifiers())) {
                face.add(method.getReturnType().getSimpleName() + " " + method.getName()
                    + parameters(method.getParameters()) + exceptions(method.getExceptionTypes()));
            }
        }
        Collections.sort(face);
        return face;
    }

    private static String parameters(Parameter[] parameters) {
        List<String> all = new ArrayList<>();
        for (Parameter parameter : parameters) {
            all.add(parameter.getType().getSimpleName() + " " + parameter.getName());
        }
        return "(" + String.join(", ", all) + ")";
    }

    private static String exceptions(Class<?>[] types) {
        List<String> all = new ArrayList<>();
        for (Class<?> type : types) {
            all.add(type.getSimpleName());
        }
        return all.isEmpty() ? "" : " throws " + String.join(", ", all);
    }
}
