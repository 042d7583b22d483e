import java.io.IOException;
import java.lang.reflect.Method;
import java.lang.reflect.Modifier;
import java.nio.file.Files;
import java.nio.file.Path;
import java.util.Arrays;
import java.util.HashMap;
import java.util.Map;
import java.util.regex.Matcher;
import java.util.regex.Pattern;

/** The example of README.md answers what stands behind each of its calls, and its table has every call. */
public final class ReadmeTest {
    private static final Due DUE = new Due("ReadmeTest");
    private static final Pattern EXAMPLE = Pattern.compile("(?s)```java\n(.*?)```");
    private static final Pattern CALL =
        Pattern.compile("(?:int (\\w+) = )?house\\.(\\w+)\\(([^)]*)\\);\\s*// (-?\\d+): .*");

    public static void main(String[] args) throws IOException, ReflectiveOperationException {
        String readme = Files.readString(Path.of("README.md"));
        Matcher example = EXAMPLE.matcher(readme);
        DUE.holds("there is an example", example.find());
        runExample(example.group(1).split("\n"));
        tableHasAll(readme);
        DUE.close();
    }

    private static void runExample(String[] lines) throws ReflectiveOperationException {
        HouseWorkers house = new HouseWorkers();
        Map<String, Integer> named = new HashMap<>();
        DUE.holds("it begins with a new object", lines[0].equals("HouseWorkers house = new HouseWorkers();"));
        for (int i = 1; i < lines.length; i++) {
            Matcher call = CALL.matcher(lines[i]);
            boolean isCall = call.matches();
            DUE.holds("a call with its answer: " + lines[i], isCall);
            if (isCall) {
                int got = answer(house, call.group(2), numbers(call.group(3), named));
                DUE.is(lines[i], Integer.parseInt(call.group(4)), got);
                if (call.group(1) != null) {
                    named.put(call.group(1), got);
                }
            }
        }
    }

    private static Object[] numbers(String arguments, Map<String, Integer> named) {
        if (arguments.isEmpty()) {
            return new Object[0];
        }
        String[] words = arguments.split(", ");
        Object[] numbers = new Object[words.length];
        for (int i = 0; i < words.length; i++) {
            numbers[i] = named.containsKey(words[i]) ? named.get(words[i]) : Integer.valueOf(words[i]);
        }
        return numbers;
    }

    private static int answer(HouseWorkers house, String name, Object[] numbers) throws ReflectiveOperationException {
        Class<?>[] types = new Class<?>[numbers.length];
        Arrays.fill(types, int.class);
        return (int) HouseWorkers.class.getMethod(name, types).invoke(house, numbers);
    }

    private static void tableHasAll(String readme) {
        for (Method m : HouseWorkers.class.getDeclaredMethods()) {
            if (Modifier.isPublic(m.getModifiers())) {
                Matcher row = Pattern.compile("\n\\| `" + m.getName() + "\\(([^)]*)\\)` \\|").matcher(readme);
                boolean isThere = row.find();
                DUE.holds("the table has " + m.getName(), isThere);
                if (isThere) {
                    int named = row.group(1).isEmpty() ? 0 : row.group(1).split(", ").length;
                    DUE.is("arguments of " + m.getName(), m.getParameterCount(), named);
                }
            }
        }
    }
}
