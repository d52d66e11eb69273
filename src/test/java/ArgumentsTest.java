import java.lang.reflect.InvocationTargetException;
import java.lang.reflect.Method;
import java.lang.reflect.Modifier;
import java.util.Arrays;
import java.util.Comparator;
import java.util.Random;

/** Every method with any arguments in any state: none throws, and what they answer is one of what they may. */
public final class ArgumentsTest {
    private static final Random chance = new Random(62L);
    private static final int[] EDGES = {Integer.MIN_VALUE, Integer.MIN_VALUE + 1, -60, -3, -2, -1, 0, 1, 2, 3, 4, 5, 6, 7,
        8, 9, 10, 19, 20, 21, 36, 40, 41, 58, 59, 60, 61, 100, 255, 256, 1380, 1400, 1401, 2000000000, 2000000001,
        Integer.MAX_VALUE - 1, Integer.MAX_VALUE};
    private static final String[] WORDS = {"hall", "rows", "seats", "law", "place", "to", "then", "exit", "wide", "king",
        "sits", "halls", ";", ";", "0", "1", "2", "5", "6", "99999999999", " ", "\n", "?", "\u00ff", "hall rows 6 seats 6 law 4;",
        "place 0 0 to 0 then 1;", "place 5 1 to 1 then 0;", "exit 0 wide 3;", "exit 1 wide 1 king 3 to 20;", "sits 2 2;"};

    public static void main(String[] args) throws IllegalAccessException {
        Method[] methods = Arrays.stream(MovingExits.class.getDeclaredMethods())
            .filter(m -> Modifier.isPublic(m.getModifiers()))
            .sorted(Comparator.comparing(Method::getName)).toArray(Method[]::new);
        Asked.due("public methods", methods.length, 61);
        for (int run = 0; run < 300; run++) {
            Asked asked = new Asked();
            if (run % 4 != 0) {
                asked.tell(hall(run));
            }
            for (int call = 0; call < 400; call++) {
                if (chance.nextInt(40) == 0) {
                    garbage(asked);
                } else {
                    call(asked.x, methods[chance.nextInt(methods.length)]);
                }
            }
        }
        Asked.close();
    }

    private static String hall(int run) {
        String nine = Halls.PLACES_OF_NINE.replace("rows 3 seats 3", run % 3 == 0 ? "rows 6 seats 6" : "rows 3 seats 5");
        StringBuilder text = new StringBuilder(nine + Halls.EXITS_OF_SEVEN.replace("wide 1", "wide " + (1 + run % 3)));
        for (int i = 0; i < 9; i++) {
            text.append("sits " + i / 3 + " " + i % 3 + ";");
        }
        return text.toString().replace("to 0 then 4", "to " + run % 5 + " then " + run % 9);
    }

    private static void garbage(Asked asked) {
        StringBuilder text = new StringBuilder(chance.nextInt(3) == 0 ? "" : "hall rows 3 seats 4 law 2;");
        for (int i = chance.nextInt(20); i > 0; i--) {
            text.append(WORDS[chance.nextInt(WORDS.length)]).append(chance.nextBoolean() ? " " : "");
        }
        asked.bring(text.toString());
        int lines = asked.x.hall();
        boolean faulty = lines == -4;
        Asked.due("fault(0) goes with the answer", asked.x.fault(0) == 0 ? 0 : 1, faulty ? 1 : 0);
        Asked.due("fault(1) goes with the answer", asked.x.fault(1) == -1 ? 0 : 1, faulty ? 1 : 0);
        Asked.due("fault(1) is in the text", asked.x.fault(1) <= text.length() ? 1 : 0, 1);
    }

    private static void call(MovingExits x, Method method) throws IllegalAccessException {
        Object[] arguments = new Object[method.getParameterCount()];
        for (int i = 0; i < arguments.length; i++) {
            int edge = chance.nextInt(3) > 0 ? chance.nextInt(4) : EDGES[chance.nextInt(EDGES.length)];
            arguments[i] = method.getParameterTypes()[i] == long.class ? (Object) ((long) edge << chance.nextInt(33)) : edge;
        }
        String name = method.getName() + Arrays.toString(arguments);
        try {
            long answer = ((Number) method.invoke(x, arguments)).longValue();
            Asked.due(name + " is at least -8", answer >= -8 ? 1 : 0, 1);
        } catch (InvocationTargetException thrown) {
            thrown.getCause().printStackTrace(System.out);
            Asked.due(name + " threw", 1, 0);
        }
    }
}
