import java.util.Random;

/** Promises 22 to 25: signed, regular, scaled, special. */
public final class SignsTest {
    private static final int HIDDEN = -1000000;
    private static final int LEAST = Integer.MIN_VALUE;
    private static final int GREATEST = Integer.MAX_VALUE;
    private static final String FIRST = "+-00-/-+-00/0-+-0/00-+-/-00-+";
    private static final String SECOND = "+++++/+++00/+0++0/+00++/++00+";
    private static final Check check = new Check();

    public static void main(String[] args) {
        signs();
        asToldPlainly();
        regulars();
        scaled();
        specials();
        check.finish();
    }

    private static void signsOf(String text, String want) {
        UnimodularTables x = Check.of(text);
        int[][] signs = PlainModel.parse(want);
        for (int row = 0; row < signs.length; row++) {
            for (int column = 0; column < signs[0].length; column++) {
                check.due("signed(" + row + ", " + column + ") of " + text, x.signed(row, column), signs[row][column]);
            }
        }
        check.showsAs("signed leaves the table", x, text);
    }

    private static void signs() {
        signsOf("--/--", "++/++");
        signsOf("+-/-+", "++/++");
        signsOf("0-0", "0+0");
        // Round by three rows: five are told 1, the last one needs -1, as 5 - 1 = 4.
        signsOf("++0/0++/+0+", "++0/0++/+0-");
        // Round by four: seven and one more are 8.
        signsOf("++00/0++0/00++/+00+", "++00/0++0/00++/+00+");
        // The first round again, its last sign in row 2, and behind it what closes nothing.
        signsOf("-0-0/0--0/--0-/000-", "+0+0/0++0/+-0+/000+");
        signsOf("+++/+++/+++", "+++/+++/+++");
        // Row 2, column 2 is told last, by the short way that row 2, column 3 has opened: 3 and 1 are 4.
        signsOf("++0+/+0++/0+++", "++0+/+0++/0+++");
        // Two are as far: the first is told first. Then two ways are as short: by row 0, not by row 1.
        signsOf("+00+00/+0000+/00++0+/++0000/+0+0+0", "+00+00/+0000+/00++0-/++0000/+0-0+0");
        signsOf("+0000+/00++0+/+00++0/+++000/+00+00", "+0000+/00++0+/+00-+0/++-000/+00-00");
        signsOf("000++/00+0+/++0+0/++00+/+0++0", "000++/00+0+/++0+0/++00-/+0++0");
        UnimodularTables x = Check.of("++/0+");
        int[][] wrong = {{-1, 0}, {0, -1}, {2, 0}, {0, 2}, {LEAST, 0}, {0, GREATEST}};
        for (int[] at : wrong) {
            check.due("signed(" + at[0] + ", " + at[1] + ")", x.signed(at[0], at[1]), HIDDEN);
        }
        check.due("signed of no table", new UnimodularTables().signed(0, 0), HIDDEN);
        check.due("signed", x.signed(1, 0), 0);
        x.change(1, 0, -1);
        check.due("signed behind a change", x.signed(1, 0), 1);
    }

    /** Compares with the plain model, on one object, so that nothing may be left of the table ahead. */
    private static void asToldPlainly() {
        Random random = new Random(11);
        UnimodularTables x = new UnimodularTables();
        for (int i = 0; i < 3000; i++) {
            int rows = 1 + random.nextInt(6);
            int columns = 1 + random.nextInt(6);
            int dense = 2 + random.nextInt(6);
            StringBuilder text = new StringBuilder();
            for (int j = 0; j < rows * columns; j++) {
                text.append(j > 0 && j % columns == 0 ? "/" : "");
                text.append(random.nextInt(8) < dense ? "+-".charAt(random.nextInt(2)) : '0');
            }
            Check.table(x, text.toString());
            int[][] signs = PlainModel.signed(PlainModel.parse(text.toString()));
            for (int j = 0; j < rows * columns; j++) {
                check.due("signed of " + text, x.signed(j / columns, j % columns), signs[j / columns][j % columns]);
            }
        }
    }

    private static void regulars() {
        String[] regular = {"0", "++/-+", "++0/0++/+0+", FIRST, SECOND, "++++++/++++++", "++0/0++/+0-"};
        for (String text : regular) {
            check.due("regular of " + text, Check.of(text).regular(), 1);
        }
        // The plane of seven points, and what it is transposed.
        String[] others = {"++0+/+0++/0+++", "++0/+0+/0++/+++", "--0-/-0--/0---", "++0+0/+0++0/0+++0/0000+"};
        for (String text : others) {
            check.due("regular of " + text, Check.of(text).regular(), 0);
        }
        check.due("regular of no table", new UnimodularTables().regular(), -1);
        UnimodularTables x = Check.of("++/-+");
        check.due("regular", x.regular(), 1);
        check.due("total behind regular", x.total(), 0);
        check.due("det behind regular", x.det(3, 3), 2);
    }

    private static void scaledTo(String from, String to, int want) {
        UnimodularTables x = Check.of(to);
        x.keep();
        Check.table(x, from);
        check.due(from + " scaled to " + to, x.scaled(0), want);
        check.showsAs("scaled leaves the table", x, from);
    }

    private static void scaled() {
        scaledTo("+", "+", 1);
        scaledTo("+", "-", 1);
        scaledTo("+", "0", 0);
        scaledTo("+-/0+", "+-/0+", 1);
        scaledTo("+-/0+", "++/0+", 1);
        scaledTo("++/++", "+-/-+", 1);
        scaledTo("++/++", "++/-+", 0);
        scaledTo("++/++", "++/--", 1);
        scaledTo("++/0+", "++/+0", 0);
        scaledTo("++", "+/+", 0);
        scaledTo("++/++", "++", 0);
        scaledTo("++", "+++", 0);
        scaledTo("++0/0++/+0+", "++0/0++/+0-", 0);
        scaledTo("++0/0++/+0+", "-+0/0+-/+0+", 1);
        scaledTo("++++++/++++++/++++++/++++++/++++++/++++++", "-+-+-+/+-+-+-/-+-+-+/+-+-+-/-+-+-+/+-+-+-", 1);
        scaledTo("++++++/++++++/++++++/++++++/++++++/++++++", "-+-+-+/+-+-+-/-+-+-+/+-+-+-/-+-+-+/+-+-++", 0);
        check.due("scaled of no table", new UnimodularTables().scaled(0), -1);
        UnimodularTables x = Check.of("+");
        check.due("nothing kept", x.scaled(0), -1);
        x.keep();
        int[] wrong = {1, -1, LEAST, GREATEST};
        for (int kept : wrong) {
            check.due("scaled(" + kept + ")", x.scaled(kept), -1);
        }
    }

    private static void specials() {
        check.due("special of no table", new UnimodularTables().special(), -1);
        String[] neither = {"+", "++/-+", "+++++/+++++/+++++/+++++/+++++", "--00-/-+-00/0-+-0/00-+-/-00-+",
            "+++++/+++00/+0++0/+00++/++00-", "+-00-0/-+-000/0-+-00/00-+-0/-00-+0", "00000/00000/00000/00000/00000",
            "++000/0++00/00++0/000++/+000+", "+++00/0+++0/00+++/+00++/+++00"};
        for (String text : neither) {
            check.due("special of " + text, Check.of(text).special(), 0);
        }
        for (int seed = 0; seed < 40; seed++) {
            UnimodularTables one = Check.of(FIRST);
            UnimodularTables two = Check.of(SECOND);
            for (int i = 0; i < 9; i++) {
                int a = (seed * 7 + i * 3) % 5;
                int kind = (seed + i) % 4;
                one.deal(kind, a, (a + 1 + seed % 4) % 5);
                two.deal(kind, a, (a + 1 + seed % 4) % 5);
            }
            check.due("special of " + Check.show(one), one.special(), 1);
            check.due("special of " + Check.show(two), two.special(), 2);
            int row = seed % 5;
            int column = one.entry(row, 0) != 0 ? 0 : one.entry(row, 1) != 0 ? 1 : 2;
            one.change(row, column, -one.entry(row, column));
            check.due("special of " + Check.show(one), one.special(), 0);
        }
        UnimodularTables x = Check.of(FIRST);
        x.deal(4, 0, 1);
        check.due("special, turned", x.special(), 2);
        x.undo();
        check.due("special, back", x.special(), 1);
    }
}
