import java.io.IOException;
import java.lang.reflect.InvocationTargetException;
import java.lang.reflect.Method;
import java.lang.reflect.Modifier;
import java.nio.file.Files;
import java.nio.file.Path;
import java.util.regex.Matcher;
import java.util.regex.Pattern;

/** That README.md tells the truth: the answers behind its calls, and that it names every call of the face. */
public final class ReadmeTest {
    private static final Path README = Path.of("README.md");
    private static final Pattern BLOCK = Pattern.compile("(?s)```java\n(.*?)```");
    private static final Pattern CALL = Pattern.compile("x\\.(\\w+)\\(([^)]*)\\); +// (-?\\d+)(?:: .*)?");
    private static final String MADE = "UnimodularTables x = new UnimodularTables();";
    private static final Check check = new Check();

    private static UnimodularTables x = new UnimodularTables();

    public static void main(String[] args) throws IOException, ReflectiveOperationException {
        String readme = Files.readString(README);
        Matcher blocks = BLOCK.matcher(readme);
        int found = 0;
        while (blocks.find()) {
            found++;
            for (String line : blocks.group(1).split("\n")) {
                compare(line);
            }
        }
        check.due("README.md has examples, which", found > 0, true);
        namesEveryCall(readme);
        check.finish();
    }

    private static void compare(String line) throws ReflectiveOperationException {
        if (line.equals(MADE)) {
            x = new UnimodularTables();
            return;
        }
        Matcher call = CALL.matcher(line);
        boolean read = call.matches();
        check.due("the line '" + line + "' can be read, which", read, true);
        if (read) {
            check.due(line, answer(call.group(1), call.group(2)), Long.parseLong(call.group(3)));
        }
    }

    private static long answer(String name, String arguments) throws ReflectiveOperationException {
        String[] words = arguments.isEmpty() ? new String[0] : arguments.split(", ");
        for (Method method : UnimodularTables.class.getMethods()) {
            if (method.getName().equals(name) && method.getParameterCount() == words.length) {
                return answer(method, words);
            }
        }
        throw new NoSuchMethodException(name);
    }

    private static long answer(Method method, String[] words) throws IllegalAccessException {
        Object[] values = new Object[words.length];
        for (int i = 0; i < words.length; i++) {
            long value = Long.decode(words[i]);
            if (method.getParameterTypes()[i] == long.class) {
                values[i] = value;
            } else {
                values[i] = (int) value;
            }
        }
        try {
            Object result = method.invoke(x, values);
            return result instanceof Boolean ? ((Boolean) result ? 1 : 0) : ((Number) result).longValue();
        } catch (InvocationTargetException e) {
            return Check.THROWN;
        }
    }

    private static void namesEveryCall(String readme) {
        for (Method method : UnimodularTables.class.getDeclaredMethods()) {
            if (Modifier.isPublic(method.getModifiers())) {
                check.due("README.md names " + method.getName() + ", which", readme.contains("`" + method.getName() + "`"), true);
            }
        }
    }
}
