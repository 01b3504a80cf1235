/** Promises 6 to 12 and 39: entry, change, deal, keep, kept, join, undo, status. */
public final class ActsTest {
    private static final int HIDDEN = -1000000;
    private static final int LEAST = Integer.MIN_VALUE;
    private static final int GREATEST = Integer.MAX_VALUE;
    private static final Check check = new Check();

    public static void main(String[] args) {
        entries();
        changing();
        negatingAndChanging();
        turning();
        transposingAndDropping();
        refusedDeals();
        keeping();
        joining();
        linking();
        refusedSums();
        undoing();
        statuses();
        check.finish();
    }

    private static void statusOf(UnimodularTables x, int none, int one, int two, int three) {
        int[] want = {none, one, two, three};
        for (int what = 0; what < 4; what++) {
            check.due("status(" + what + ")", x.status(what), want[what]);
        }
    }

    private static void entries() {
        UnimodularTables x = Check.of("+-0/0+-");
        int[][] want = {{1, -1, 0}, {0, 1, -1}};
        for (int row = 0; row < 2; row++) {
            for (int column = 0; column < 3; column++) {
                check.due("entry", Check.entry(x, row, column), want[row][column]);
            }
        }
        int[][] wrong = {{-1, 0}, {0, -1}, {2, 0}, {0, 3}, {LEAST, 0}, {0, LEAST}, {GREATEST, 0}, {0, GREATEST}};
        for (int[] at : wrong) {
            check.due("entry(" + at[0] + ", " + at[1] + ")", Check.entry(x, at[0], at[1]), Check.THROWN);
        }
        check.due("entry of no table", Check.entry(new UnimodularTables(), 0, 0), Check.THROWN);
    }

    private static void changing() {
        UnimodularTables x = Check.of("+-0/0+-");
        check.due("change(0, 2, 1)", x.change(0, 2, 1), 0);
        check.due("change(1, 2, 0)", x.change(1, 2, 0), -1);
        check.due("change(0, 0, -1)", x.change(0, 0, -1), 1);
        check.showsAs("change", x, "--+/0+0");
        check.due("acts", x.count(5), 3);
        check.due("it is so", x.change(0, 0, -1), HIDDEN);
        statusOf(x, 0, 0, 1, 0);
        check.due("no such row", x.change(2, 0, 0), HIDDEN);
        check.due("no such row", x.change(-1, 0, 0), HIDDEN);
        check.due("no such column", x.change(0, 3, 0), HIDDEN);
        check.due("no such column", x.change(0, -1, 0), HIDDEN);
        check.due("out of bounds", x.change(0, 0, 2), HIDDEN);
        check.due("out of bounds", x.change(0, 0, -2), HIDDEN);
        check.due("out of bounds", x.change(LEAST, GREATEST, GREATEST), HIDDEN);
        statusOf(x, 0, 7, 1, 0);
        check.showsAs("refused", x, "--+/0+0");
        check.due("acts", x.count(5), 3);
        check.due("undo", x.undo(), 2);
        check.showsAs("undo", x, "+-+/0+0");
        UnimodularTables none = new UnimodularTables();
        check.due("no table", none.change(0, 0, 5), HIDDEN);
        statusOf(none, 1, 0, 0, 0);
    }

    private static void dealt(String from, int kind, int a, int b, String to) {
        UnimodularTables x = Check.of(from);
        check.due("deal(" + kind + ", " + a + ", " + b + ") of " + from, x.deal(kind, a, b), 1);
        check.showsAs("deal(" + kind + ", " + a + ", " + b + ") of " + from, x, to);
        check.due("undo", x.undo(), 0);
        check.showsAs("undo", x, from);
        statusOf(x, 0, 0, 0, 0);
    }

    private static void refusedDeal(String from, int kind, int a, int b, int status) {
        UnimodularTables x = Check.of(from);
        check.due("deal(" + kind + ", " + a + ", " + b + ") of " + from, x.deal(kind, a, b), -1);
        check.showsAs("a refused deal", x, from);
        check.due("acts", x.count(5), 0);
        for (int what = 0; what < 4; what++) {
            check.due("status(" + what + ") behind deal(" + kind + ", " + a + ", " + b + ")", x.status(what), what == status ? 1 : 0);
        }
    }

    private static void negatingAndChanging() {
        dealt("+-0/0+-", 0, 1, 77, "+-0/0-+");
        dealt("+-0/0+-", 1, 1, LEAST, "++0/0--");
        dealt("+-0/0+-", 1, 2, GREATEST, "+-0/0++");
        dealt("000", 0, 0, 0, "000");
        dealt("+-0/0+-/+++", 2, 0, 2, "+++/0+-/+-0");
        dealt("+-0/0+-/+++", 2, 2, 1, "+-0/+++/0+-");
        dealt("+-0/0+-", 3, 0, 1, "-+0/+0-");
        dealt("+-0/0+-", 3, 2, 0, "0-+/-+0");
        dealt("+-/+-", 2, 0, 1, "+-/+-");
        dealt("+-0+-0/000000/000000/000000/000000/-----+", 2, 5, 0, "-----+/000000/000000/000000/000000/+-0+-0");
    }

    private static void turning() {
        dealt("++/+0", 4, 0, 0, "-+/+-");
        dealt("-+/+0", 4, 0, 0, "+-/-+");
        dealt("++/+0", 4, 0, 1, "+-/+0");
        dealt("++/++", 4, 1, 0, "+0/-+");
        dealt("+", 4, 0, 0, "-");
        dealt("-", 4, 0, 0, "+");
        dealt("+-0+", 4, 0, 1, "-+0-");
        dealt("+/-/0", 4, 1, 0, "-/+/0");
        // Row 1, column 2 is the pivot -1: those in neither are a - (-1) * (its row's) * (its column's).
        dealt("0++/-0-/+-0", 4, 1, 2, "-+-/+0+/+-0");
        refusedDeal("++/-+", 4, 0, 0, 3);
        refusedDeal("++/-+", 4, 1, 1, 3);
        refusedDeal("+0/++", 4, 0, 1, 2);
        refusedDeal("+0/++", 4, 2, 0, 1);
        refusedDeal("+0/++", 4, 0, 2, 1);
        refusedDeal("+0/++", 4, -1, 0, 1);
        refusedDeal("+0/++", 4, 0, LEAST, 1);
    }

    private static void transposingAndDropping() {
        dealt("+-0/0+-", 5, LEAST, GREATEST, "+0/-+/0-");
        dealt("+-0+-0", 5, 9, 9, "+/-/0/+/-/0");
        dealt("+-/0+/--", 6, 0, 9, "0+/--");
        dealt("+-/0+/--", 6, 1, -9, "+-/--");
        dealt("+-/0+/--", 6, 2, 0, "+-/0+");
        dealt("+-0/0+-", 7, 0, 9, "-0/+-");
        dealt("+-0/0+-", 7, 1, 9, "+0/0-");
        dealt("+-0/0+-", 7, 2, 9, "+-/0+");
        dealt("++++++/------/000000/+-+-+-/-+-+-+/0+0+0+", 7, 3, 0, "+++++/-----/00000/+-++-/-+--+/0+00+");
        refusedDeal("+-0", 6, 0, 0, 3);
        refusedDeal("+-0", 6, 1, 0, 1);
        refusedDeal("+/-", 7, 0, 0, 3);
        refusedDeal("+/-", 7, 1, 0, 1);
        refusedDeal("+/-", 7, -1, 0, 1);
        UnimodularTables x = Check.of("+0-/-0+");
        x.deal(5, 0, 0);
        x.deal(6, 1, 0);
        x.deal(7, 0, 0);
        check.showsAs("three deals", x, "-/+");
        x.deal(5, 0, 0);
        check.showsAs("four deals", x, "-+");
        check.due("undo", x.undo(), 3);
        check.due("undo", x.undo(), 2);
        check.showsAs("undo", x, "+-/-+");
        check.due("undo", x.undo(), 1);
        check.showsAs("undo", x, "+-/00/-+");
        check.due("undo", x.undo(), 0);
        check.showsAs("undo", x, "+0-/-0+");
    }

    private static void refusedDeals() {
        int[] wrongKinds = {8, -1, 9, LEAST, GREATEST};
        for (int kind : wrongKinds) {
            refusedDeal("+-/0+", kind, 0, 1, 1);
        }
        int[] wrongOnes = {2, -1, LEAST, GREATEST};
        for (int wrong : wrongOnes) {
            for (int kind = 0; kind <= 7; kind++) {
                if (kind != 5) {
                    refusedDeal("+-/0+", kind, wrong, 0, 1);
                }
                if (kind == 2 || kind == 3) {
                    refusedDeal("+-/0+", kind, 0, wrong, 1);
                    refusedDeal("+-/0+", kind, wrong, wrong, 1);
                }
            }
        }
        refusedDeal("+-/0+", 2, 1, 1, 2);
        refusedDeal("+-/0+", 3, 0, 0, 2);
        UnimodularTables none = new UnimodularTables();
        for (int kind = -1; kind <= 8; kind++) {
            check.due("deal of no table", none.deal(kind, 0, 0), -1);
        }
        statusOf(none, 10, 0, 0, 0);
    }

    private static void keeping() {
        UnimodularTables x = new UnimodularTables();
        check.due("keep of no table", x.keep(), -1);
        check.due("kept of none", x.kept(0, 0, 0), HIDDEN);
        Check.table(x, "+-0/0+-");
        check.due("keep", x.keep(), 0);
        x.deal(5, 0, 0);
        check.due("keep", x.keep(), 1);
        x.change(0, 0, 0);
        check.due("kept ones do not follow", x.kept(0, 0, 0), 1);
        check.due("kept", x.kept(0, 1, 2), -1);
        check.due("kept", x.kept(1, 2, 1), -1);
        check.due("no such row of the kept one", x.kept(0, 2, 0), HIDDEN);
        check.due("no such column of the kept one", x.kept(1, 0, 2), HIDDEN);
        check.due("no such row of the kept one", x.kept(0, -1, 0), HIDDEN);
        check.due("no such column of the kept one", x.kept(0, 0, GREATEST), HIDDEN);
        check.due("no such kept one", x.kept(2, 0, 0), HIDDEN);
        check.due("no such kept one", x.kept(-1, 0, 0), HIDDEN);
        check.due("no such kept one", x.kept(LEAST, 0, 0), HIDDEN);
        check.due("keep is no act", x.count(5), 2);
        check.due("keep", x.keep(), 2);
        check.due("keep", x.keep(), 3);
        check.due("a fifth", x.keep(), -1);
        check.due("four are kept", x.count(2), 4);
        check.due("undo leaves the kept ones", x.undo(), 1);
        check.due("kept", x.kept(3, 0, 0), 0);
        statusOf(x, 0, 0, 0, 0);
    }

    private static UnimodularTables keeping(String... texts) {
        UnimodularTables x = new UnimodularTables();
        for (String text : texts) {
            Check.table(x, text);
            x.keep();
        }
        return x;
    }

    private static void joining() {
        UnimodularTables x = keeping("+-/0+", "-0+", "-/+/-/+");
        check.due("join", x.join(0, 1, 0), 3);
        check.showsAs("join", x, "+-000/0+000/00-0+");
        check.due("join", x.join(1, 0, 0), 3);
        check.showsAs("join", x, "-0+00/000+-/0000+");
        check.due("join with itself", x.join(0, 0, 0), 4);
        check.showsAs("join with itself", x, "+-00/0+00/00+-/000+");
        check.due("join to six rows", x.join(0, 2, 0), 6);
        check.showsAs("join to six rows", x, "+-0/0+0/00-/00+/00-/00+");
        check.due("join to six columns", x.join(1, 1, 0), 2);
        check.showsAs("join to six columns", x, "-0+000/000-0+");
        check.due("seven rows can't be", x.join(2, 2, 0), -1);
        statusOf(x, 0, 0, 0, 1);
        check.showsAs("a refused one", x, "-0+000/000-0+");
        check.due("undo", x.undo(), 4);
        check.due("undo", x.undo(), 3);
        check.due("undo", x.undo(), 2);
        check.showsAs("undo", x, "-0+00/000+-/0000+");
        check.due("undo", x.undo(), 1);
        check.due("undo", x.undo(), 0);
        check.showsAs("undo", x, "-/+/-/+");
        UnimodularTables wide = keeping("++++", "+++");
        check.due("seven columns can't be", wide.join(0, 1, 0), -1);
        statusOf(wide, 0, 0, 0, 1);
    }

    private static void linking() {
        UnimodularTables x = keeping("+-/0+", "-0/++", "++-/0+0", "-+0/+++/--0");
        check.due("link", x.join(0, 1, 1), 3);
        check.showsAs("link", x, "++0/0-0/0++");
        check.due("link", x.join(2, 3, 1), 4);
        check.showsAs("link", x, "+++-0/0+000/00+++/00--0");
        check.due("link with itself", x.join(0, 0, 1), 3);
        check.showsAs("link with itself", x, "+-+/0+-/00+");
        check.due("undo", x.undo(), 2);
        check.showsAs("undo", x, "+++-0/0+000/00+++/00--0");
        UnimodularTables y = keeping("+/-", "+-", "++++", "+-+/0+0");
        check.due("the first needs two columns", y.join(0, 0, 1), -1);
        check.due("the second needs two rows", y.join(1, 1, 1), -1);
        check.due("link", y.join(1, 0, 1), 2);
        check.showsAs("link", y, "+-/0-");
        check.due("link to six columns", y.join(2, 3, 1), 2);
        check.showsAs("link to six columns", y, "++++-+/0000+0");
        statusOf(y, 0, 0, 0, 2);
        UnimodularTables z = keeping("+-/+-/+-/+-", "+/+/-", "+/+/-/0", "++++/0000");
        check.due("link to six rows", z.join(0, 1, 1), 6);
        check.showsAs("link to six rows", z, "+-/+-/+-/+-/0+/0-");
        check.due("seven rows can't be", z.join(0, 2, 1), -1);
        check.due("seven columns can't be", z.join(3, 3, 1), -1);
        statusOf(z, 0, 0, 0, 2);
    }

    private static void refusedSums() {
        UnimodularTables x = keeping("+-/0+", "-0+");
        int[] wrong = {2, 3, 4, -1, LEAST, GREATEST};
        for (int number : wrong) {
            check.due("no such kept one", x.join(number, 0, 0), -1);
            check.due("no such kept one", x.join(0, number, 1), -1);
            check.due("no such kept one, of several the first", x.join(0, number, 2), -1);
        }
        statusOf(x, 18, 0, 0, 0);
        int[] wrongKinds = {2, -1, LEAST, GREATEST};
        for (int kind : wrongKinds) {
            check.due("no such kind", x.join(0, 1, kind), -1);
        }
        statusOf(x, 18, 4, 0, 0);
        check.showsAs("refused", x, "-0+");
        check.due("acts", x.count(5), 0);
        UnimodularTables none = new UnimodularTables();
        check.due("nothing kept", none.join(0, 0, 0), -1);
        statusOf(none, 1, 0, 0, 0);
    }

    private static void undoing() {
        UnimodularTables x = Check.of("000000/000000");
        check.due("nothing to be undone", x.undo(), -1);
        for (int i = 0; i < 50; i++) {
            int at = i % 12;
            int was = x.change(at / 6, at % 6, i < 12 ? 1 : i < 24 ? -1 : i < 36 ? 0 : i < 48 ? 1 : -1);
            check.due("change", was, i < 12 ? 0 : i < 24 ? 1 : i < 36 ? -1 : i < 48 ? 0 : 1);
            check.due("acts", x.count(5), Math.min(40, i + 1));
        }
        check.showsAs("fifty acts", x, "--++++/++++++");
        check.due("undo", x.undo(), 39);
        check.due("undo", x.undo(), 38);
        check.showsAs("two undone", x, "++++++/++++++");
        check.due("an act behind it", x.deal(0, 0, 0), 39);
        check.due("an act behind it", x.deal(0, 0, 0), 40);
        check.due("an act behind it", x.deal(0, 1, 0), 40);
        for (int left = 39; left >= 0; left--) {
            check.due("undo", x.undo(), left);
        }
        // 51 acts were done in all that were not undone before: eleven of them stay.
        check.showsAs("forty undone", x, "++++++/+++++0");
        check.due("none is left", x.undo(), -1);
        check.showsAs("none is left", x, "++++++/+++++0");
    }

    private static void statuses() {
        UnimodularTables x = Check.of("+-/0+");
        x.change(5, 5, 5);
        x.change(0, 0, 1);
        x.deal(0, 0, 0);
        x.undo();
        x.deal(9, 0, 0);
        x.deal(6, 0, 0);
        x.deal(6, 0, 0);
        x.join(0, 0, 0);
        statusOf(x, 1, 2, 1, 1);
        x.undo();
        statusOf(x, 1, 2, 1, 1);
        check.due("undo of nothing", x.undo(), -1);
        x.halves(99);
        x.det(99, 99);
        x.perform(0);
        x.draws(0, 0);
        statusOf(x, 1, 2, 1, 1);
        int[] wrong = {4, -1, LEAST, GREATEST};
        for (int what : wrong) {
            check.due("no such what", x.status(what), -1);
        }
    }
}
