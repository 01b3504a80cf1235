import java.io.IOException;
import java.lang.reflect.Field;
import java.lang.reflect.Method;
import java.lang.reflect.Modifier;
import java.nio.file.Files;
import java.nio.file.Path;
import java.util.ArrayList;
import java.util.Arrays;
import java.util.List;
import java.util.Set;
import java.util.TreeSet;
import java.util.regex.Matcher;
import java.util.regex.Pattern;

/** The public face, and the rules of LANGUAGE.md that the source or the compiled class shows. */
public final class LanguageTest {
    private static final Path SOURCE = Path.of("src/main/java/UnimodularTables.java");
    private static final Path DOCUMENT = Path.of("../shared/DOC.md");
    private static final String[] FORBIDDEN = {"->", "::", "\\bfinally\\b", "\\bsynchronized\\b", "\\bassert\\b", "\\bcatch\\b",
        "\\btry\\b", "\\bpackage\\b", "\\bprotected\\b", "\\binstanceof\\b", "\\bSystem\\.(?!arraycopy)", "\\bThread\\b",
        "Exact\\(", "\\bstatic \\{", "\\bvar\\b", "\\bRandom\\b", "\\[\\]\\[\\]\\[\\]", "\\bwhile \\(true\\)", "for \\(;;\\)"};
    private static final Check check = new Check();

    public static void main(String[] args) throws IOException {
        String source = Files.readString(SOURCE);
        String code = source.replaceAll("(?s)/\\*.*?\\*/", "").replaceAll("//[^\n]*", "");
        face(Files.readString(DOCUMENT));
        constants();
        members();
        names();
        forbidden(code);
        imports(code);
        methods(code);
        check.finish();
    }

    private static String written(Method method) {
        StringBuilder text = new StringBuilder(method.getReturnType().getSimpleName()).append(' ').append(method.getName()).append('(');
        for (Class<?> type : method.getParameterTypes()) {
            text.append(type.getSimpleName()).append(',');
        }
        text.append(')');
        for (Class<?> type : method.getExceptionTypes()) {
            text.append(type.getSimpleName());
        }
        return text.toString();
    }

    private static Set<String> publicMethods() {
        Set<String> result = new TreeSet<>();
        for (Method method : UnimodularTables.class.getDeclaredMethods()) {
            if (Modifier.isPublic(method.getModifiers())) {
                result.add(written(method));
            }
        }
        return result;
    }

    private static void face(String document) {
        Set<String> want = new TreeSet<>();
        Matcher matcher = Pattern.compile("    public (int|boolean) (\\w+)\\(([^)]*)\\)( throws \\w+)?;").matcher(document);
        while (matcher.find()) {
            String types = matcher.group(3).replaceAll(" \\w+(, |$)", ",");
            String thrown = matcher.group(4) == null ? "" : matcher.group(4).substring(8);
            want.add(matcher.group(1) + " " + matcher.group(2) + "(" + types + ")" + thrown);
        }
        check.due("methods of the document's face", want.size(), 41);
        Set<String> got = publicMethods();
        if (!got.equals(want)) {
            System.out.println("the face is " + got + ", due is " + want);
        }
        check.due("the face", got.equals(want), true);
        check.due("one constructor", UnimodularTables.class.getDeclaredConstructors().length, 1);
        check.due("it is public", UnimodularTables.class.getConstructors().length, 1);
        check.due("the class is final", Modifier.isFinal(UnimodularTables.class.getModifiers()), true);
    }

    private static void constants() {
        check.due("NONE", UnimodularTables.NONE, -1);
        check.due("HIDDEN", UnimodularTables.HIDDEN, -1000000);
        check.due("public fields", UnimodularTables.class.getFields().length, 2);
    }

    private static List<Class<?>> classes() {
        List<Class<?>> result = new ArrayList<>(Arrays.asList(UnimodularTables.class.getDeclaredClasses()));
        result.add(UnimodularTables.class);
        return result;
    }

    private static void members() {
        check.due("classes", classes().size() <= 12, true);
        for (Class<?> type : classes()) {
            boolean outer = type == UnimodularTables.class;
            check.due(type + " is static", outer || Modifier.isStatic(type.getModifiers()), true);
            int fields = 0;
            for (Field field : type.getDeclaredFields()) {
                int modifiers = field.getModifiers();
                check.due(field + " is private or public", Modifier.isPrivate(modifiers) || outer && Modifier.isPublic(modifiers), true);
                check.due(field + " is final, if static", !Modifier.isStatic(modifiers) || Modifier.isFinal(modifiers), true);
                fields += Modifier.isStatic(modifiers) ? 0 : 1;
            }
            check.due(type + " has few fields", fields <= 20, true);
            for (Method method : type.getDeclaredMethods()) {
                int modifiers = method.getModifiers();
                check.due(method + " is seen by none", !outer || Modifier.isPublic(modifiers) || Modifier.isPrivate(modifiers), true);
                check.due(method + " has few parameters", method.getParameterCount() <= 7, true);
            }
        }
    }

    private static void names() {
        Set<String> open = new TreeSet<>();
        for (String method : publicMethods()) {
            open.add(method.replaceAll("\\w+ (\\w+)\\(.*", "$1"));
        }
        for (Class<?> type : classes()) {
            for (Method method : type.getDeclaredMethods()) {
                if (!Modifier.isPublic(method.getModifiers())) {
                    check.due(method + " has a name of its own", open.contains(method.getName()), false);
                }
            }
        }
    }

    private static void forbidden(String code) {
        for (String word : FORBIDDEN) {
            Matcher matcher = Pattern.compile(word).matcher(code);
            check.due("the source has " + word, matcher.find(), false);
        }
    }

    private static void imports(String code) {
        Matcher matcher = Pattern.compile("(?m)^import ([^;]+);").matcher(code);
        while (matcher.find()) {
            check.due("import " + matcher.group(1), matcher.group(1).equals("java.util.NoSuchElementException"), true);
        }
    }

    private static void methods(String code) {
        String[] lines = code.split("\n");
        int begun = -1;
        String end = "";
        for (int i = 0; i < lines.length; i++) {
            Matcher matcher = Pattern.compile("^( {4}| {8})(?! |return|else|new|throw)[\\w\\[\\] ]+\\([^;]*\\)[^;=]*\\{$").matcher(lines[i]);
            if (begun < 0 && matcher.matches() && !lines[i].trim().matches("(if|for|while|switch|\\}).*")) {
                begun = i;
                end = matcher.group(1) + "}";
            } else if (begun >= 0 && lines[i].equals(end)) {
                check.due("lines of " + lines[begun].trim(), i - begun + 1 <= 60, true);
                begun = -1;
            }
        }
    }
}
