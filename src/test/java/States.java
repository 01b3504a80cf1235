/** Objects in the states that the tests of edges begin with. */
final class States {
    static final int LEAST = Integer.MIN_VALUE;
    static final int GREATEST = Integer.MAX_VALUE;

    private States() {
    }

    /** No table, but bytes on the tape, a script and a refused act. */
    static UnimodularTables bare() {
        UnimodularTables x = new UnimodularTables();
        Check.script(x, "r0;e00-");
        x.deal(5, 0, 0);
        Check.tape(x, "+ -");
        return x;
    }

    /**
     * Something of everything, and room for more: the table ++-/0-- (not total), three kept ones (of 2 rows and 3 columns,
     * 2 and 2, 2 and 3), one script, two acts that can be undone, an image with two kept ones, three bytes on the tape.
     */
    static UnimodularTables busy() {
        UnimodularTables x = Check.of("+-0/0+-");
        x.keep();
        Check.table(x, "++/0+");
        x.keep();
        x.image();
        Check.script(x, "r0;t;e10-;x01");
        Check.table(x, "++0/0++");
        x.keep();
        x.deal(0, 1, 0);
        x.change(0, 2, -1);
        x.join(7, 0, 0);
        x.deal(0, 9, 0);
        x.deal(2, 0, 0);
        x.deal(4, 0, 1);
        Check.tape(x, "+ -");
        return x;
    }

    /** Four kept ones, four scripts, 240 bytes, forty acts; all else small, as an object is used for 512 calls alone. */
    static UnimodularTables full() {
        UnimodularTables x = new UnimodularTables();
        for (int i = 0; i < 4; i++) {
            Check.script(x, "r" + i);
            Check.table(x, i % 2 == 0 ? "+" : "-");
            x.keep();
        }
        for (int i = 0; i < 40; i++) {
            x.deal(i % 2, 0, 0);
        }
        Check.tape(x, " ".repeat(239) + "+");
        return x;
    }

    /** The table alone. */
    static UnimodularTables with(String text) {
        return Check.of(text);
    }

    /** The table, with these ones kept. */
    static UnimodularTables keeping(String text, String... kept) {
        UnimodularTables x = new UnimodularTables();
        for (String one : kept) {
            Check.table(x, one);
            x.keep();
        }
        Check.table(x, text);
        return x;
    }
}
