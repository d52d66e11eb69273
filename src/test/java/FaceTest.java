import java.io.IOException;
import java.lang.reflect.Constructor;
import java.lang.reflect.Field;
import java.lang.reflect.Method;
import java.lang.reflect.Modifier;
import java.nio.file.Files;
import java.nio.file.Path;
import java.util.ArrayList;
import java.util.List;
import java.util.Set;
import java.util.TreeSet;
import java.util.regex.Matcher;
import java.util.regex.Pattern;

/** The public face is the document's, read from the document itself, and nothing else can be seen from outside. */
public final class FaceTest {
    private static final Path DOCUMENT = Path.of("../shared/DOC.md");
    private static final Pattern METHOD = Pattern.compile("public (int|long) (\\w+)\\(([^)]*)\\);");

    public static void main(String[] args) throws IOException, IllegalAccessException {
        methods(documentsFace());
        constant();
        constructor();
        classItself();
        Asked.close();
    }

    private static List<String> documentsFace() throws IOException {
        List<String> face = new ArrayList<>();
        boolean inside = false;
        for (String line : Files.readAllLines(DOCUMENT)) {
            if (line.startsWith("```")) {
                if (inside) {
                    break;
                }
                inside = line.equals("```java");
            } else if (inside) {
                face.add(line.trim());
            }
        }
        return face;
    }

    private static void methods(List<String> face) {
        Set<String> wanted = new TreeSet<>();
        for (String line : face) {
            Matcher method = METHOD.matcher(line);
            if (method.matches()) {
                wanted.add(method.group(1) + " " + method.group(2) + "(" + method.group(3).replaceAll(" \\w+(?=,|$)", "") + ")");
            }
        }
        // The class's own line, the constant, the constructor and the closing brace are no methods.
        Asked.due("lines of the face that are read", wanted.size() + 4, face.size());
        Set<String> found = new TreeSet<>();
        for (Method method : MovingExits.class.getDeclaredMethods()) {
            if (Modifier.isPublic(method.getModifiers())) {
                found.add(told(method));
                Asked.due(method + " is of the object", Modifier.isStatic(method.getModifiers()) ? 1 : 0, 0);
                Asked.due(method + " says that it throws", method.getExceptionTypes().length, 0);
            } else {
                Asked.due(method + " is private", Modifier.isPrivate(method.getModifiers()) ? 1 : 0, 1);
            }
        }
        Asked.same("the face", String.join("\n", found), String.join("\n", wanted));
    }

    private static String told(Method method) {
        List<String> parameters = new ArrayList<>();
        for (Class<?> type : method.getParameterTypes()) {
            parameters.add(type.getName());
        }
        return method.getReturnType().getName() + " " + method.getName() + "(" + String.join(", ", parameters) + ")";
    }

    private static void constant() throws IllegalAccessException {
        int constants = 0;
        for (Field field : MovingExits.class.getDeclaredFields()) {
            if (!Modifier.isPrivate(field.getModifiers())) {
                constants++;
                Asked.due(field + " is NONE", field.getName().equals("NONE") ? 1 : 0, 1);
                Asked.due(field + " is a constant", field.getModifiers(), Modifier.PUBLIC | Modifier.STATIC | Modifier.FINAL);
                Asked.due(field + " is an int", field.getType() == int.class ? 1 : 0, 1);
                Asked.due(field + "", field.getInt(null), -1);
            }
        }
        Asked.due("constants of the face", constants, 1);
    }

    private static void constructor() {
        Constructor<?>[] all = MovingExits.class.getDeclaredConstructors();
        Asked.due("constructors", all.length, 1);
        Asked.due("the constructor's parameters", all[0].getParameterCount(), 0);
        Asked.due("the constructor is public", all[0].getModifiers(), Modifier.PUBLIC);
    }

    private static void classItself() {
        Class<?> face = MovingExits.class;
        Asked.due("public and final", face.getModifiers(), Modifier.PUBLIC | Modifier.FINAL);
        Asked.due("no package", face.getPackageName().isEmpty() ? 1 : 0, 1);
        Asked.due("no class above it", face.getSuperclass() == Object.class ? 1 : 0, 1);
        Asked.due("no interfaces", face.getInterfaces().length, 0);
    }
}
