import java.io.IOException;
import java.lang.reflect.Method;
import java.nio.file.Files;
import java.nio.file.Path;
import java.util.ArrayList;
import java.util.List;
import java.util.regex.Matcher;
import java.util.regex.Pattern;

/** That each promise of the document, and each part of its terms, has tests of edges that are named after it and are run. */
public final class EdgesNamedTest {
    private static final Path DOCUMENT = Path.of("../shared/DOC.md");
    private static final List<Class<?>> TESTS = List.of(TermsEdgesTest.class, Promises01To12EdgesTest.class, Promises13To21EdgesTest.class,
            Promises22To34EdgesTest.class, Promises35To42EdgesTest.class);
    private static final Check check = new Check();

    public static void main(String[] args) throws IOException {
        List<String> names = names();
        int promises = 0;
        Matcher heading = Pattern.compile("(?m)^## Promise (\\d+): (?:A )?(\\w)(\\w*)( object)?").matcher(Files.readString(DOCUMENT));
        while (heading.find()) {
            promises++;
            String start = String.format("promise%02d", Integer.parseInt(heading.group(1))) + heading.group(2).toUpperCase() + heading.group(3);
            check.due("a test named " + start, names.stream().anyMatch(name -> name.startsWith(start)), true);
        }
        check.due("promises of the document", promises, 42);
        for (int part = 1; part <= 3; part++) {
            String start = "terms" + part;
            check.due("a test named " + start, names.stream().anyMatch(name -> name.startsWith(start)), true);
        }
        check.finish();
    }

    private static List<String> names() {
        List<String> result = new ArrayList<>();
        for (Class<?> tests : TESTS) {
            for (Method method : tests.getDeclaredMethods()) {
                if (Check.isTest(method)) {
                    result.add(method.getName());
                }
            }
        }
        return result;
    }
}
