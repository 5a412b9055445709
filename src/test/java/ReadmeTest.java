import java.io.IOException;
import java.lang.reflect.Method;
import java.nio.file.Files;
import java.nio.file.Path;
import java.util.ArrayList;
import java.util.HashMap;
import java.util.List;
import java.util.Map;
import java.util.TreeMap;
import java.util.regex.Matcher;
import java.util.regex.Pattern;

/** README.md has each call of the public face with what it throws, and its example answers as its comments say. */
public final class ReadmeTest {
    private static final Pattern HEADING = Pattern.compile("### `(\\w+ \\w+)\\((.*)\\)`");
    private static final Pattern REFUSAL = Pattern.compile("- `(\\w+)`: .+");
    private static final Pattern STEP = Pattern.compile("(?:int (\\w+) = )?rows\\.(\\w+)\\((.*)\\); +// (-?\\d+): .+");

    private static final Check check = new Check("README");

    public static void main(String[] args) throws IOException, ReflectiveOperationException {
        List<String> readme = Files.readAllLines(Path.of("README.md"));
        check.due("the calls and what they throw", face().toString(), told(readme).toString());
        example(readme);
        check.end();
    }

    private static Map<String, List<String>> face() {
        Map<String, List<String>> calls = new TreeMap<>();
        for (Method method : OrderRows3.class.getMethods()) {
            if (method.getDeclaringClass() == OrderRows3.class) {
                calls.put(signature(method), thrownBy(method));
            }
        }
        return calls;
    }

    private static String signature(Method method) {
        return method.getReturnType() + " " + method.getName() + namesOf(method.getParameterTypes());
    }

    private static List<String> thrownBy(Method method) {
        return namesOf(method.getExceptionTypes());
    }

    private static List<String> namesOf(Class<?>[] types) {
        List<String> names = new ArrayList<>();
        for (Class<?> type : types) {
            names.add(type.getSimpleName());
        }
        return names;
    }

    private static Map<String, List<String>> told(List<String> readme) {
        Map<String, List<String>> calls = new TreeMap<>();
        List<String> thrown = new ArrayList<>();
        for (String line : readme) {
            Matcher heading = HEADING.matcher(line);
            Matcher refusal = REFUSAL.matcher(line);
            if (line.startsWith("#")) {
                thrown = new ArrayList<>();
            }
            if (heading.matches()) {
                calls.put(heading.group(1) + typesOf(heading.group(2)), thrown);
            } else if (refusal.matches()) {
                thrown.add(refusal.group(1));
            }
        }
        return calls;
    }

    private static List<String> typesOf(String parameters) {
        List<String> types = new ArrayList<>();
        for (String parameter : parameters.split(", ")) {
            types.add(parameter.split(" ")[0]);
        }
        return types;
    }

    private static void example(List<String> readme) throws ReflectiveOperationException {
        OrderRows3 rows = new OrderRows3();
        Map<String, Object> names = new HashMap<>();
        int steps = 0;
        for (String line : readme) {
            Matcher step = STEP.matcher(line);
            if (step.matches()) {
                Object answer = answer(rows, step.group(2), step.group(3).split(", "), names);
                check.due(line, step.group(4), answer.toString());
                names.put(step.group(1), answer);
                steps++;
            }
        }
        check.due("the example has steps", 1, steps > 0 ? 1 : 0);
    }

    private static Object answer(OrderRows3 rows, String call, String[] given, Map<String, Object> names)
            throws ReflectiveOperationException {
        Class<?>[] types = new Class<?>[given.length];
        Object[] values = new Object[given.length];
        for (int k = 0; k < given.length; k++) {
            types[k] = int.class;
            values[k] = names.containsKey(given[k]) ? names.get(given[k]) : Integer.valueOf(given[k]);
        }
        return OrderRows3.class.getMethod(call, types).invoke(rows, values);
    }
}
