import java.io.IOException;
import java.lang.reflect.Field;
import java.lang.reflect.Modifier;
import java.nio.file.Files;
import java.nio.file.Path;
import java.util.ArrayList;
import java.util.HashMap;
import java.util.HashSet;
import java.util.List;
import java.util.Map;
import java.util.Set;
import java.util.regex.Matcher;
import java.util.regex.Pattern;

/** Those rules of LANGUAGE.md that can be read off the source. */
public final class RulesTest {
    private static final Pattern HEAD = Pattern.compile(
        "^ +((?:public |private |static |final )*)([\\w\\[\\]]+ )?(\\w+)\\(([^()]*)\\) \\{$");
    private static final Pattern CALL = Pattern.compile("(?<!new )\\b(\\w+)\\(");
    private static final Set<String> LIBRARY = Set.of("abs", "min", "max", "bitCount", "arraycopy");
    private static final Set<String> WORDS = Set.of("if", "for", "while", "switch");

    public static void main(String[] args) throws IOException {
        List<String> lines = Files.readAllLines(Path.of("src/main/java/MovingExits.java"));
        words(lines);
        methods(lines);
        loops(lines);
        classesInside();
        Asked.close();
    }

    private static String code(String line) {
        return line.replaceFirst("//.*", "").replaceFirst("^ *(/\\*\\*|\\*).*", "").replaceAll("'.'", "' '");
    }

    private static void words(List<String> lines) {
        Pattern never = Pattern.compile("\\b(throw|throws|try|catch|finally|synchronized|assert|import|package|Object|var|enum"
            + "|instanceof|double|float|protected|Random|Thread|String)\\b|->|::|\"");
        int classes = 0;
        for (String line : lines) {
            Asked.due("never: " + line.trim(), never.matcher(code(line)).find() ? 1 : 0, 0);
            Asked.due("signs of: " + line.trim(), line.chars().allMatch(c -> c >= 32 && c < 127) ? 1 : 0, 1);
            classes += line.matches("^ *(public|private static) final class \\w+ \\{") ? 1 : 0;
            boolean open = line.matches("^    [a-z].*") && !line.matches("^    (public|private) .*");
            Asked.due("open in the face: " + line.trim(), open ? 1 : 0, 0);
            boolean state = line.contains(" static ") && line.contains("=") && !line.contains(" final ");
            Asked.due("state that is no constant: " + line.trim(), state ? 1 : 0, 0);
        }
        Asked.due("classes", classes <= 12 ? 1 : 0, 1);
    }

    private static void methods(List<String> lines) {
        Map<String, Set<String>> calls = new HashMap<>();
        Set<String> faces = new HashSet<>();
        List<String> others = new ArrayList<>();
        for (int i = 0; i < lines.size(); i++) {
            Matcher head = HEAD.matcher(lines.get(i));
            if (!head.matches() || WORDS.contains(head.group(3))) {
                continue;
            }
            String name = head.group(3);
            String close = lines.get(i).replaceFirst("\\S.*", "") + "}";
            int start = i;
            Set<String> inside = calls.computeIfAbsent(name, n -> new HashSet<>());
            for (i++; !lines.get(i).equals(close); i++) {
                Matcher call = CALL.matcher(code(lines.get(i)));
                while (call.find()) {
                    inside.add(call.group(1));
                }
            }
            Asked.due(name + " is short", i - start < 60 ? 1 : 0, 1);
            Asked.due(name + " takes few", head.group(4).split(",").length <= 7 ? 1 : 0, 1);
            if (head.group(1).contains("public")) {
                faces.add(name);
            } else {
                others.add(name);
            }
        }
        for (String other : others) {
            Asked.due(other + " has a name of its own", faces.contains(other) ? 1 : 0, 0);
        }
        for (String face : faces) {
            int depth = depth(face, calls, 1);
            Asked.due(face + " goes " + depth + " deep", depth <= 8 ? 1 : 0, 1);
        }
    }

    /** Rule 9: a counter against a bound stands in the loop's own line. */
    private static void loops(List<String> lines) {
        Pattern counted = Pattern.compile(
            "^ +for \\(int (\\w+) = [^;]+; \\1(?: \\+ \\d)? (?:<|<=|>=) [^;]+; (?:\\1\\+\\+|\\1 [+-]= \\d)\\) \\{$");
        for (String line : lines) {
            String code = code(line);
            if (code.matches(".*\\b(for|while|do)\\b.*")) {
                boolean ends = counted.matcher(code).matches() || code.matches("^ +while \\(position < MOST_BYTES && .*");
                Asked.due("an end that can be seen: " + line.trim(), ends ? 1 : 0, 1);
            }
        }
    }

    /** Rules 2, 3, 5 and 11, as far as fields tell. */
    private static void classesInside() {
        List<Class<?>> all = new ArrayList<>(List.of(MovingExits.class.getDeclaredClasses()));
        for (Class<?> inside : all) {
            Asked.due(inside + " is static", Modifier.isStatic(inside.getModifiers()) ? 1 : 0, 1);
            Asked.due(inside + " has none inside", inside.getDeclaredClasses().length, 0);
        }
        all.add(MovingExits.class);
        for (Class<?> one : all) {
            int fields = 0;
            for (Field field : one.getDeclaredFields()) {
                Class<?> type = field.getType();
                if (Modifier.isStatic(field.getModifiers())) {
                    Asked.due(field + " is final", Modifier.isFinal(field.getModifiers()) ? 1 : 0, 1);
                    Asked.due(field + " is a number", type == int.class || type == long.class ? 1 : 0, 1);
                } else {
                    fields++;
                    Class<?> of = type.isArray() ? type.getComponentType() : type;
                    Asked.due(field + " is of a plain type", of.isPrimitive() || all.contains(of) ? 1 : 0, 1);
                }
            }
            Asked.due(one + " has " + fields + " fields", fields <= 20 ? 1 : 0, 1);
        }
    }

    /** The longest chain of calls; 99 for one that comes back to itself. */
    private static int depth(String name, Map<String, Set<String>> calls, int at) {
        int most = at;
        for (String called : at > 20 ? Set.<String>of() : calls.get(name)) {
            if (calls.containsKey(called)) {
                most = Math.max(most, depth(called, calls, at + 1));
            } else if (LIBRARY.contains(called)) {
                most = Math.max(most, at + 1);
            } else if (!WORDS.contains(called)) {
                Asked.due(name + " calls " + called + ", which is in no library", 1, 0);
            }
        }
        return at > 20 ? 99 : most;
    }
}
