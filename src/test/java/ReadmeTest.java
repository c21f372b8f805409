import java.io.IOException;
import java.lang.reflect.InvocationTargetException;
import java.lang.reflect.Method;
import java.lang.reflect.Modifier;
import java.nio.file.Files;
import java.nio.file.Path;
import java.util.List;
import java.util.regex.Matcher;
import java.util.regex.Pattern;

/** README.md: each call of its example answers the number that stands behind it, and no call of the face is left out. */
public final class ReadmeTest {
    private static final Due due = new Due("ReadmeTest");

    private static final Pattern CALL = Pattern.compile("lantern\\.(\\w+)\\(([^)]*)\\);\\s+// (-?\\d+)(: .+)?");
    private static final String FIRST = "Lantern lantern = new Lantern();";

    public static void main(String[] args) throws IOException, IllegalAccessException, InvocationTargetException {
        String readme = Files.readString(Path.of("README.md"));
        example(readme);
        names(readme);
        due.end();
    }

    private static void example(String readme)
            throws IllegalAccessException, InvocationTargetException {
        String fence = "```java\n";
        int from = readme.indexOf(fence) + fence.length();
        List<String> lines = readme.substring(from, readme.indexOf("```", from)).lines().toList();
        due.isSo("the first line makes an object", lines.get(0).equals(FIRST));
        Lantern lantern = new Lantern();
        for (String line : lines.subList(1, lines.size())) {
            Matcher call = CALL.matcher(line);
            boolean isCall = call.matches();
            due.isSo("a call and its answer: " + line, isCall);
            if (isCall) {
                due.is(line, answer(lantern, call.group(1), call.group(2)), Long.parseLong(call.group(3)));
            }
        }
    }

    private static long answer(Lantern lantern, String name, String numbers)
            throws IllegalAccessException, InvocationTargetException {
        for (Method method : Lantern.class.getMethods()) {
            if (method.getName().equals(name) && method.getDeclaringClass() == Lantern.class) {
                return ((Number) method.invoke(lantern, arguments(numbers))).longValue();
            }
        }
        throw new IllegalStateException("no call named " + name);
    }

    private static Object[] arguments(String numbers) {
        if (numbers.isEmpty()) {
            return new Object[0];
        }
        String[] each = numbers.split(", ");
        Object[] arguments = new Object[each.length];
        for (int i = 0; i < each.length; i++) {
            arguments[i] = Integer.valueOf(each[i]);
        }
        return arguments;
    }

    private static void names(String readme) {
        for (Method method : Lantern.class.getDeclaredMethods()) {
            if (Modifier.isPublic(method.getModifiers())) {
                due.isSo(method.getName() + " is told of", readme.contains("`" + method.getName() + "`"));
            }
        }
    }
}
