import java.lang.reflect.InvocationTargetException;
import java.lang.reflect.Method;
import java.util.NoSuchElementException;
import java.util.function.Supplier;
import java.util.function.ToLongFunction;

/** What the tests share: counting wrong answers, and bringing texts to a tape. */
final class Check {
    /** What entry answers here, where it throws. */
    static final long THROWN = Long.MIN_VALUE;

    private static final int NO_STATUS = -1;

    private int wrong;
    private int asked;
    private String test = "";

    /** Runs every test of a class: its static methods that are named after a promise or a part of the terms. */
    void runAll(Class<?> tests) {
        for (Method method : tests.getDeclaredMethods()) {
            if (isTest(method)) {
                test = method.getName() + ": ";
                run(method);
            }
        }
        finish();
    }

    static boolean isTest(Method method) {
        return method.getName().matches("(promise[0-9]{2}|terms[0-9])[A-Z].*") && method.getParameterCount() == 0;
    }

    private void run(Method method) {
        int before = asked;
        try {
            method.invoke(null);
        } catch (InvocationTargetException e) {
            due("it threw " + e.getCause() + ", which", 1, 0);
        } catch (IllegalAccessException e) {
            due("it can't be run, which", 1, 0);
        }
        due("it asks something, which", asked > before, true);
    }

    void due(String call, long got, long want) {
        asked++;
        if (got != want) {
            wrong++;
            if (wrong <= 40) {
                System.out.println(test + call + " answered " + got + ", due is " + want);
            }
        }
    }

    /** The call answers so and leaves all that can be seen of the object as it was, STATUS too. */
    void refused(String call, Supplier<UnimodularTables> made, ToLongFunction<UnimodularTables> done, long want) {
        refused(call, made, done, want, NO_STATUS);
    }

    /** The same, but for one more in that number of STATUS. */
    void refused(String call, Supplier<UnimodularTables> made, ToLongFunction<UnimodularTables> done, long want, int status) {
        UnimodularTables x = made.get();
        UnimodularTables untouched = made.get();
        due(call, done.applyAsLong(x), want);
        for (int what = 0; what < 4; what++) {
            due("status(" + what + ") behind " + call, x.status(what), untouched.status(what) + (what == status ? 1 : 0));
        }
        dueText("what is seen behind " + call, Seen.of(x), Seen.of(untouched));
    }

    void dueText(String call, String got, String want) {
        asked++;
        if (!got.equals(want)) {
            wrong++;
            System.out.println(test + call + " is " + got + ", due is " + want);
        }
    }

    void due(String call, boolean got, boolean want) {
        due(call, got ? 1 : 0, want ? 1 : 0);
    }

    int wrong() {
        return wrong;
    }

    void finish() {
        if (asked == 0 || wrong > 0) {
            System.out.println(wrong + " of " + asked + " answers are not as due");
            System.exit(1);
        }
    }

    static long entry(UnimodularTables x, int row, int column) {
        try {
            return x.entry(row, column);
        } catch (NoSuchElementException e) {
            return THROWN;
        }
    }

    /** The five numbers that feed takes for up to twenty characters. */
    static int[] words(String text) {
        int[] words = new int[5];
        for (int i = 0; i < text.length(); i++) {
            words[i / 4] |= (text.charAt(i) & 255) << (24 - 8 * (i % 4));
        }
        return words;
    }

    /** The text alone is on the tape then. */
    static void tape(UnimodularTables x, String text) {
        x.end(0);
        for (int i = 0; i < text.length(); i += 20) {
            int[] w = words(text.substring(i, Math.min(i + 20, text.length())));
            x.feed(w[0], w[1], w[2], w[3], w[4]);
        }
    }

    static void table(UnimodularTables x, String text) {
        tape(x, text);
        if (x.text(0) < 1) {
            throw new IllegalArgumentException(text);
        }
    }

    static int script(UnimodularTables x, String text) {
        tape(x, text);
        int number = x.text(1);
        if (number < 0) {
            throw new IllegalArgumentException(text);
        }
        return number;
    }

    static UnimodularTables of(String text) {
        UnimodularTables x = new UnimodularTables();
        table(x, text);
        return x;
    }

    /** The table as a text, read entry by entry. */
    static String show(UnimodularTables x) {
        StringBuilder text = new StringBuilder();
        int rows = x.count(0);
        int columns = x.count(1);
        for (int row = 0; row < rows; row++) {
            text.append(row == 0 ? "" : "/");
            for (int column = 0; column < columns; column++) {
                text.append("-0+".charAt(x.entry(row, column) + 1));
            }
        }
        return text.toString();
    }

    void showsAs(String call, UnimodularTables x, String want) {
        dueText("the table behind " + call, show(x), want);
    }
}
