import java.io.IOException;
import java.lang.reflect.Method;
import java.nio.file.Files;
import java.nio.file.Path;
import java.util.HashSet;
import java.util.List;
import java.util.Set;
import java.util.regex.Matcher;
import java.util.regex.Pattern;

/** The example of README.md: each of its lines is called, and answers what is written behind it. */
public final class ReadmeTest {
    private static final Pattern BLOCK = Pattern.compile("(?s)```java\n(.*?)```");
    private static final Pattern MADE = Pattern.compile("QuiltHouse house = new QuiltHouse\\(\\);( *//.*)?");
    private static final Pattern CALL = Pattern.compile("house\\.(\\w+)\\((.*)\\); +// (-?\\d+|[A-Z]+)\\b.*");
    private static final Checks checks = new Checks();

    public static void main(String[] args) throws ReflectiveOperationException, IOException {
        checks.promise(0, "README.md");
        Matcher block = BLOCK.matcher(Files.readString(Path.of("README.md")));
        checks.fine("there is an example", block.find());
        example(block.group(1).lines().toList());
        constants(Files.readString(Path.of("README.md")));
        checks.end();
    }

    private static void example(List<String> lines) throws ReflectiveOperationException {
        QuiltHouse house = null;
        Set<String> called = new HashSet<>();
        for (String line : lines) {
            Matcher call = CALL.matcher(line);
            if (MADE.matcher(line).matches()) {
                house = new QuiltHouse();
            } else if (call.matches()) {
                checks.due(line, answer(house, call.group(1), call.group(2)), number(call.group(3)));
                called.add(call.group(1));
            } else {
                checks.fine("a remark or an empty line: " + line, line.isEmpty() || line.startsWith("//"));
            }
        }
        checks.fine("many calls are shown", called.size() > 20);
    }

    private static long answer(QuiltHouse house, String name, String told) throws ReflectiveOperationException {
        String[] words = told.isEmpty() ? new String[0] : told.split(", ");
        Object[] arguments = new Object[words.length];
        for (int i = 0; i < words.length; i++) {
            arguments[i] = argument(words[i]);
        }
        for (Method method : QuiltHouse.class.getMethods()) {
            if (method.getName().equals(name) && method.getParameterCount() == words.length) {
                return ((Number) method.invoke(house, arguments)).longValue();
            }
        }
        checks.fine("there is a call " + name, false);
        return 0;
    }

    private static Object argument(String word) {
        if (word.equals("true") || word.equals("false")) {
            return word.equals("true");
        }
        return word.startsWith("'") ? (int) word.charAt(1) : Integer.parseInt(word);
    }

    private static long number(String told) throws ReflectiveOperationException {
        boolean named = Character.isUpperCase(told.charAt(0));
        return named ? QuiltHouse.class.getField(told).getInt(null) : Integer.parseInt(told);
    }

    /** The table of refusals tells each constant as it is. */
    private static void constants(String readme) throws ReflectiveOperationException {
        Matcher rows = Pattern.compile("(?m)^\\| `([A-Z]+)` \\| (-\\d) \\|").matcher(readme);
        int found = 0;
        while (rows.find()) {
            checks.due(rows.group(1), Integer.parseInt(rows.group(2)), number(rows.group(1)));
            found++;
        }
        checks.due("refusals told", found, 5);
    }
}
