import java.io.IOException;
import java.lang.reflect.Method;
import java.lang.reflect.Modifier;
import java.nio.file.Files;
import java.nio.file.Path;
import java.util.ArrayList;
import java.util.Arrays;
import java.util.HashMap;
import java.util.List;
import java.util.Map;
import java.util.regex.Matcher;
import java.util.regex.Pattern;

/** README.md's example answers as README.md says, and every call of the class is named there. */
public final class ReadmeTests {
    private static final Path README = Path.of("README.md");
    private static final String MADE = "TrueWeights land = new TrueWeights();";
    private static final Pattern CALL = Pattern.compile("(?:int (\\w+) = )?land\\.(\\w+)\\(([^)]*)\\); +// (-?\\d+)(?!\\d).*");

    private static final List<String> wrong = new ArrayList<>();

    public static void main(String[] args) throws IOException, ReflectiveOperationException {
        List<String> lines = Files.readAllLines(README);
        runExample(example(lines));
        everyCallIsNamed(String.join("\n", lines));
        for (String line : wrong) System.out.println(line);
        System.out.println(wrong.isEmpty() ? "README.md is as due" : wrong.size() + " lines of README.md are not as due");
        if (!wrong.isEmpty()) System.exit(1);
    }

    private static List<String> example(List<String> lines) {
        int start = lines.indexOf("```java");
        List<String> rest = lines.subList(start + 1, lines.size());
        int end = rest.indexOf("```");
        return start < 0 || end < 0 ? List.of() : rest.subList(0, end);
    }

    private static void runExample(List<String> lines) throws ReflectiveOperationException {
        if (lines.isEmpty() || !lines.get(0).equals(MADE)) {
            wrong.add("the example does not begin with " + MADE);
            return;
        }
        TrueWeights land = new TrueWeights();
        Map<String, Integer> named = new HashMap<>();
        for (String line : lines.subList(1, lines.size())) {
            Matcher m = CALL.matcher(line);
            if (!m.matches()) {
                wrong.add("no call with its answer: " + line);
                continue;
            }
            long got = call(land, m.group(2), arguments(m.group(3), named));
            if (m.group(1) != null) named.put(m.group(1), (int) got);
            if (got != Long.parseLong(m.group(4))) wrong.add(line + " answered " + got);
        }
    }

    private static Object[] arguments(String text, Map<String, Integer> named) {
        List<Object> values = new ArrayList<>();
        for (String one : text.isBlank() ? new String[0] : text.split(", ")) {
            values.add(named.containsKey(one) ? named.get(one) : Integer.valueOf(one));
        }
        return values.toArray();
    }

    private static long call(TrueWeights land, String name, Object[] arguments) throws ReflectiveOperationException {
        Class<?>[] ints = new Class<?>[arguments.length];
        Arrays.fill(ints, int.class);
        return ((Number) TrueWeights.class.getMethod(name, ints).invoke(land, arguments)).longValue();
    }

    private static void everyCallIsNamed(String text) {
        for (Method m : TrueWeights.class.getDeclaredMethods()) {
            if (!Modifier.isPublic(m.getModifiers())) continue;
            int count = m.getParameterCount();
            Matcher named = Pattern.compile("`" + m.getName() + "\\(([^)]*)\\)`").matcher(text);
            if (!named.find()) wrong.add(m.getName() + " is not named");
            else if ((named.group(1).isEmpty() ? 0 : named.group(1).split(", ").length) != count) {
                wrong.add(m.getName() + " is named with other than " + count + " arguments");
            }
        }
    }
}
