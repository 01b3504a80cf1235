/** Promises 13 to 18, 27 to 31 and 33: what is asked of the squares of the table. */
public final class SquaresTest {
    private static final int HIDDEN = -1000000;
    private static final int LEAST = Integer.MIN_VALUE;
    private static final int GREATEST = Integer.MAX_VALUE;
    /** Its determinant is 2, all its smaller squares are within -1 .. 1. */
    private static final String ROUND = "++0/0++/+0+";
    /** Its determinant is -3. */
    private static final String ALL_BUT_ITSELF = "0+++/+0++/++0+/+++0";
    private static final Check check = new Check();

    public static void main(String[] args) {
        noTable();
        dets();
        squares();
        totals();
        witnesses();
        halves();
        ranksAndBases();
        mends();
        fragiles();
        fills();
        adjoints();
        check.finish();
    }

    private static void noTable() {
        UnimodularTables x = new UnimodularTables();
        check.due("det", x.det(1, 1), HIDDEN);
        check.due("squares", x.squares(1, 0), -1);
        check.due("total", x.total(), -1);
        check.due("witness", x.witness(0), HIDDEN);
        check.due("halves", x.halves(0), -1);
        check.due("unhalved", x.unhalved(), -1);
        check.due("rank", x.rank(0), -1);
        check.due("bases", x.bases(), -1);
        check.due("mends", x.mends(), -1);
        check.due("fragile", x.fragile(), -1);
        check.due("fills", x.fills(0, 0), -1);
        check.due("adjoint", x.adjoint(0, 0), HIDDEN);
    }

    private static void dets() {
        UnimodularTables x = Check.of("+-0/0+-/0++/--+");
        check.due("det of one", x.det(1, 2), -1);
        check.due("det of one", x.det(8, 4), 1);
        check.due("det of one", x.det(2, 1), 0);
        check.due("det of two", x.det(3, 3), 1);
        check.due("det of two", x.det(6, 6), 2);
        check.due("det of two", x.det(9, 6), -1);
        check.due("det of two", x.det(9, 3), -2);
        check.due("det of three", x.det(7, 7), 2);
        check.due("det of three", x.det(11, 7), -1);
        int[][] wrong = {{0, 0}, {1, 0}, {0, 1}, {3, 1}, {1, 3}, {16, 1}, {1, 8}, {15, 7}, {-1, -1}, {-1, 1}, {1, -1},
            {LEAST, 1}, {1, LEAST}, {GREATEST, GREATEST}, {17, 3}};
        for (int[] sets : wrong) {
            check.due("det(" + sets[0] + ", " + sets[1] + ")", x.det(sets[0], sets[1]), HIDDEN);
        }
        check.due("det of four", Check.of(ALL_BUT_ITSELF).det(15, 15), -3);
        // The greatest of six there is.
        UnimodularTables six = Check.of("++++++/+---++/+-+-+-/+++---/++-+--/+--++-");
        check.due("det of six", six.det(63, 63), new PlainDet().of("++++++/+---++/+-+-+-/+++---/++-+--/+--++-"));
        x.change(0, 0, -1);
        check.due("det behind a change", x.det(7, 7), -2);
        x.undo();
        check.due("det behind undo", x.det(7, 7), 2);
    }

    /** By the first column. */
    private static final class PlainDet {
        int of(String text) {
            return of(PlainModel.parse(text));
        }

        private int of(int[][] t) {
            int sum = t.length == 0 ? 1 : 0;
            for (int i = 0; i < t.length; i++) {
                int[][] less = new int[t.length - 1][t.length - 1];
                for (int r = 0; r < t.length - 1; r++) {
                    for (int c = 0; c < t.length - 1; c++) {
                        less[r][c] = t[r < i ? r : r + 1][c + 1];
                    }
                }
                sum += (i % 2 == 0 ? 1 : -1) * t[i][0] * of(less);
            }
            return sum;
        }
    }

    private static void squaresOf(String text, int k, int nought, int one, int beyond) {
        UnimodularTables x = Check.of(text);
        check.due("squares(" + k + ", 0) of " + text, x.squares(k, 0), nought);
        check.due("squares(" + k + ", 1) of " + text, x.squares(k, 1), one);
        check.due("squares(" + k + ", 2) of " + text, x.squares(k, 2), beyond);
    }

    private static void squares() {
        squaresOf(ROUND, 1, 3, 6, 0);
        squaresOf(ROUND, 2, 0, 9, 0);
        squaresOf(ROUND, 3, 0, 0, 1);
        squaresOf(ROUND, 4, 0, 0, 0);
        squaresOf(ROUND, 6, 0, 0, 0);
        squaresOf("++/--", 2, 1, 0, 0);
        squaresOf("+-0+", 1, 1, 3, 0);
        squaresOf("+-0+", 2, 0, 0, 0);
        squaresOf("+0000/0+000/00+00/000+0/0000+", 3, 90, 10, 0);
        squaresOf(ALL_BUT_ITSELF, 4, 0, 0, 1);
        UnimodularTables x = Check.of(ROUND);
        int[] wrong = {0, 7, -1, LEAST, GREATEST};
        for (int k : wrong) {
            check.due("squares(" + k + ", 0)", x.squares(k, 0), -1);
        }
        int[] wrongWhat = {3, -1, LEAST, GREATEST};
        for (int what : wrongWhat) {
            check.due("squares(1, " + what + ")", x.squares(1, what), -1);
        }
    }

    private static void totals() {
        String[] total = {"+", "0", "++/++", "++/0+", "+-00-/-+-00/0-+-0/00-+-/-00-+", "++++++/++++++/++++++/++++++/++++++/++++++",
            "++0/0++/+0-", "+-+-+-"};
        for (String text : total) {
            check.due("total of " + text, Check.of(text).total(), 1);
            check.due("witness of " + text, Check.of(text).witness(0), HIDDEN);
        }
        String[] others = {"++/-+", ROUND, ALL_BUT_ITSELF, "++/+-", "000/0++/0+-"};
        for (String text : others) {
            check.due("total of " + text, Check.of(text).total(), 0);
        }
    }

    private static void witnessOf(String text, int size, int rows, int columns, int det) {
        UnimodularTables x = Check.of(text);
        int[] want = {size, rows, columns, det};
        for (int what = 0; what < 4; what++) {
            check.due("witness(" + what + ") of " + text, x.witness(what), want[what]);
        }
    }

    private static void witnesses() {
        witnessOf("++/-+", 2, 3, 3, 2);
        witnessOf("00/++/+-", 2, 6, 3, -2);
        witnessOf("0++/0+-", 2, 3, 6, -2);
        witnessOf("++++/++--", 2, 3, 5, -2);
        witnessOf("++/+0/+-", 2, 5, 3, -2);
        witnessOf(ROUND, 3, 7, 7, 2);
        witnessOf("++000/0++00/+0+00/000++/000+-", 2, 24, 24, -2);
        witnessOf("++0000/0++000/+0+000/000++0/0000++/000+0+", 3, 7, 7, 2);
        witnessOf("++0+0/0+++0/00000/00+0+/+0+0+", 3, 19, 7, 2);
        UnimodularTables x = Check.of("++/-+");
        int[] wrong = {4, -1, LEAST, GREATEST};
        for (int what : wrong) {
            check.due("witness(" + what + ")", x.witness(what), HIDDEN);
        }
        x.deal(1, 0, 0);
        check.due("witness behind an act", x.witness(3), -2);
    }

    private static void halves() {
        UnimodularTables x = Check.of(ROUND);
        int[] want = {0, 0, 0, 1, 0, 1, 2, -1};
        for (int rows = 0; rows < 8; rows++) {
            check.due("halves(" + rows + ")", x.halves(rows), want[rows]);
        }
        int[] wrong = {8, -1, 64, LEAST, GREATEST};
        for (int rows : wrong) {
            check.due("halves(" + rows + ")", x.halves(rows), -1);
        }
        check.due("unhalved", x.unhalved(), 7);
        check.due("halves, no part needed", Check.of("+0/0+").halves(3), 0);
        check.due("halves, of several the least", Check.of("+/+/+").halves(7), 1);
        check.due("halves of opposite rows", Check.of("+-/-+").halves(3), 0);
        check.due("unhalved, of several the least", Check.of("0++/+++/++-/++-").unhalved(), 5);
        check.due("unhalved of a total one", Check.of("++0/0++/+0-").unhalved(), -1);
        check.due("unhalved of rows 1 and 2", Check.of("00/++/+-").unhalved(), 6);
        UnimodularTables six = Check.of("+/+/+/+/+/+");
        check.due("halves of six", six.halves(63), 7);
        check.due("halves(64)", six.halves(64), -1);
        check.due("unhalved of six", six.unhalved(), -1);
    }

    private static void rankOf(String text, int whole, int two, int three, int bases) {
        UnimodularTables x = Check.of(text);
        check.due("rank(0) of " + text, x.rank(0), whole);
        check.due("rank(2) of " + text, x.rank(2), two);
        check.due("rank(3) of " + text, x.rank(3), three);
        check.due("bases of " + text, x.bases(), bases);
    }

    private static void ranksAndBases() {
        rankOf("0", 0, 0, 0, 1);
        rankOf("+", 1, 1, 1, 2);
        rankOf("-0", 1, 1, 1, 2);
        rankOf("++/--", 1, 1, 1, 5);
        rankOf("++/-+", 2, 1, 2, 6);
        rankOf(ROUND, 3, 2, 3, 17);
        rankOf("+000/0-00/00+0", 3, 3, 3, 8);
        UnimodularTables x = Check.of(ALL_BUT_ITSELF);
        check.due("rank(0)", x.rank(0), 4);
        check.due("rank(2)", x.rank(2), 4);
        check.due("rank(3)", x.rank(3), 3);
        int[] wrong = {1, 4, -1, -2, -3, LEAST, GREATEST};
        for (int by : wrong) {
            check.due("rank(" + by + ")", x.rank(by), -1);
        }
        check.due("bases of a special one", Check.of("+-00-/-+-00/0-+-0/00-+-/-00-+").bases(), 162);
    }

    private static void mendsOf(String text, int want) {
        check.due("mends of " + text, Check.of(text).mends(), want);
    }

    private static void mends() {
        mendsOf("++/-+", 0);
        mendsOf("-+/++", 1);
        mendsOf("0++/++0/+0+", 2);
        mendsOf("00/++/+-", 100);
        mendsOf("0++/0+-", 10);
        mendsOf("000/0-+/0++", 111);
        mendsOf("++00/+-00/00++/00+-", -1);
        mendsOf("++/++", HIDDEN);
        mendsOf("0", HIDDEN);
        mendsOf("000000/000000/000000/000000/0000-+/0000++", 441);
    }

    private static void fragiles() {
        check.due("fragile", Check.of("++/++").fragile(), 4);
        check.due("fragile of a forest", Check.of("++/0+").fragile(), 0);
        check.due("fragile of noughts", Check.of("000").fragile(), 0);
        check.due("fragile with a row beside", Check.of("++0/++0/00+").fragile(), 4);
        check.due("fragile of a round", Check.of("++0/0++/+0-").fragile(), 6);
        check.due("fragile of one not total", Check.of("++/+-").fragile(), -1);
        check.due("fragile of all ones", Check.of("++++++/++++++/++++++/++++++/++++++/++++++").fragile(), 36);
    }

    private static void fills() {
        UnimodularTables x = Check.of("++/0+");
        check.due("fills(1, 0)", x.fills(1, 0), 6);
        check.due("fills(0, 0)", x.fills(0, 0), 7);
        check.due("fills(0, 1)", x.fills(0, 1), 7);
        UnimodularTables y = Check.of("++/-+");
        check.due("fills(0, 0)", y.fills(0, 0), 3);
        check.due("fills(1, 0)", y.fills(1, 0), 6);
        UnimodularTables z = Check.of("0++/++0/+0+");
        check.due("fills(0, 0)", z.fills(0, 0), 4);
        UnimodularTables two = Check.of("++00/+-00/00++/00+-");
        check.due("fills where none helps", two.fills(0, 0), 0);
        check.due("fills changes nothing", two.count(5), 0);
        int[][] wrong = {{-1, 0}, {0, -1}, {2, 0}, {0, 2}, {LEAST, 0}, {0, GREATEST}};
        for (int[] at : wrong) {
            check.due("fills(" + at[0] + ", " + at[1] + ")", x.fills(at[0], at[1]), -1);
        }
    }

    private static void adjoints() {
        UnimodularTables x = Check.of("++0/0++/00+");
        int[][] want = {{1, -1, 1}, {0, 1, -1}, {0, 0, 1}};
        for (int row = 0; row < 3; row++) {
            for (int column = 0; column < 3; column++) {
                check.due("adjoint(" + row + ", " + column + ")", x.adjoint(row, column), want[row][column]);
            }
        }
        check.due("adjoint of one", Check.of("-").adjoint(0, 0), 1);
        check.due("adjoint of a nought", Check.of("0").adjoint(0, 0), 1);
        int[][] wrong = {{-1, 0}, {0, -1}, {3, 0}, {0, 3}, {LEAST, 0}, {0, GREATEST}};
        for (int[] at : wrong) {
            check.due("adjoint(" + at[0] + ", " + at[1] + ")", x.adjoint(at[0], at[1]), HIDDEN);
        }
        check.due("adjoint of more columns", Check.of("++").adjoint(0, 0), HIDDEN);
        check.due("adjoint of more rows", Check.of("+/+").adjoint(0, 0), HIDDEN);
    }
}
