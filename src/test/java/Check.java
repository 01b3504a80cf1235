import java.util.NoSuchElementException;

/** What the tests share: counting wrong answers, and bringing texts to a tape. */
final class Check {
    /** What entry answers here, where it throws. */
    static final long THROWN = Long.MIN_VALUE;

    private int wrong;
    private int asked;

    void due(String call, long got, long want) {
        asked++;
        if (got != want) {
            wrong++;
            if (wrong <= 40) {
                System.out.println(call + " answered " + got + ", due is " + want);
            }
        }
    }

    void due(String call, boolean got, boolean want) {
        due(call, got ? 1 : 0, want ? 1 : 0);
    }

    int wrong() {
        return wrong;
    }

    void finish() {
        if (asked == 0 || wrong > 0) {
            System.out.println(wrong + " of " + asked + " answers are not as due");
            System.exit(1);
        }
    }

    static long entry(UnimodularTables x, int row, int column) {
        try {
            return x.entry(row, column);
        } catch (NoSuchElementException e) {
            return THROWN;
        }
    }

    /** The five numbers that feed takes for up to twenty characters. */
    static int[] words(String text) {
        int[] words = new int[5];
        for (int i = 0; i < text.length(); i++) {
            words[i / 4] |= (text.charAt(i) & 255) << (24 - 8 * (i % 4));
        }
        return words;
    }

    /** The text alone is on the tape then. */
    static void tape(UnimodularTables x, String text) {
        x.end(0);
        for (int i = 0; i < text.length(); i += 20) {
            int[] w = words(text.substring(i, Math.min(i + 20, text.length())));
            x.feed(w[0], w[1], w[2], w[3], w[4]);
        }
    }

    static void table(UnimodularTables x, String text) {
        tape(x, text);
        if (x.text(0) < 1) {
            throw new IllegalArgumentException(text);
        }
    }

    static int script(UnimodularTables x, String text) {
        tape(x, text);
        int number = x.text(1);
        if (number < 0) {
            throw new IllegalArgumentException(text);
        }
        return number;
    }

    static UnimodularTables of(String text) {
        UnimodularTables x = new UnimodularTables();
        table(x, text);
        return x;
    }

    /** The table as a text, read entry by entry. */
    static String show(UnimodularTables x) {
        StringBuilder text = new StringBuilder();
        for (int row = 0; row < x.count(0); row++) {
            text.append(row == 0 ? "" : "/");
            for (int column = 0; column < x.count(1); column++) {
                text.append("-0+".charAt(x.entry(row, column) + 1));
            }
        }
        return text.toString();
    }

    void showsAs(String call, UnimodularTables x, String want) {
        String got = show(x);
        asked++;
        if (!got.equals(want)) {
            wrong++;
            System.out.println(call + " left " + got + ", due is " + want);
        }
    }
}
