import java.util.ArrayList;
import java.util.List;
import java.util.function.Supplier;

/** The edges of promises 22 to 34: signs, special ones, blocks, ranks, mending, packing, rounds. */
public final class Promises22To34EdgesTest {
    private static final int NONE = UnimodularTables.NONE;
    private static final int HIDDEN = UnimodularTables.HIDDEN;
    private static final int[] FAR = {States.LEAST, -1000000, -2, -1, 6, 7, 64, States.GREATEST};
    private static final String SIX = "+00000/0+0000/00+000/000+00/0000+0/00000+";
    private static final String NOUGHTS = "000000/000000/000000/000000/000000/000000";
    private static final String ONES = "++++++/++++++/++++++/++++++/++++++/++++++";
    private static final String FIRST = "+-00-/-+-00/0-+-0/00-+-/-00-+";
    private static final String SECOND = "+++++/+++00/+0++0/+00++/++00+";
    private static final String NOT_TOTAL = "++/-+";
    private static final List<Supplier<UnimodularTables>> NO_TABLE = List.of(UnimodularTables::new, States::bare);
    private static final Check check = new Check();

    public static void main(String[] args) {
        check.runAll(Promises22To34EdgesTest.class);
    }

    private static Supplier<UnimodularTables> of(String text) {
        return () -> Check.of(text);
    }

    /** Rounds of 4, 6, 8, 10, 12 entries, by as many rows and columns as half of that. */
    private static String round(int side, char last) {
        StringBuilder text = new StringBuilder();
        for (int i = 0; i < side; i++) {
            StringBuilder row = new StringBuilder("0".repeat(side));
            row.setCharAt(i, '+');
            row.setCharAt((i + 1) % side, i == side - 1 ? last : '+');
            text.append(i == 0 ? "" : "/").append(row);
        }
        return text.toString();
    }

    // ---- 22: signed

    static void promise22SignedAtTheEdges() {
        UnimodularTables x = Check.of("-00000/0-0000/00-000/000-00/0000-0/00000-");
        for (int row = 0; row < 6; row++) {
            for (int column = 0; column < 6; column++) {
                check.due("signed(" + row + ", " + column + ")", x.signed(row, column), row == column ? 1 : 0);
            }
        }
        check.due("of one", Check.of("-").signed(0, 0), 1);
        check.due("of a nought", Check.of("0").signed(0, 0), 0);
    }

    static void promise22SignedThatIsNotThere() {
        for (int far : FAR) {
            check.refused("signed(" + far + ", 0)", States::busy, x -> x.signed(far, 0), HIDDEN);
            check.refused("signed(0, " + far + ")", States::busy, x -> x.signed(0, far), HIDDEN);
            check.refused("signed(" + far + ", 0)", of(SIX), x -> x.signed(far, 0), HIDDEN);
        }
        check.refused("one row more", States::busy, x -> x.signed(2, 0), HIDDEN);
        check.refused("one column more", States::busy, x -> x.signed(0, 3), HIDDEN);
        check.due("the last row and column", States.busy().signed(1, 2), 1);
        for (Supplier<UnimodularTables> state : NO_TABLE) {
            check.refused("of no table", state, x -> x.signed(0, 0), HIDDEN);
        }
    }

    static void promise22SignedFollowsEachChange() {
        UnimodularTables x = Check.of("++0/0++/+00");
        check.due("a nought", x.signed(2, 2), 0);
        x.change(2, 2, 1);
        check.due("the last of a round of six", x.signed(2, 2), -1);
        x.change(0, 0, 0);
        check.due("the round is open", x.signed(2, 2), 1);
        x.undo();
        check.due("the round is closed again", x.signed(2, 2), -1);
    }

    static void promise22SignedOfSeveralTheFirstAndLowest() {
        // Of four that are not told, each three away, the first ones come first; all get 1, as 3 and 1 are 4.
        UnimodularTables x = Check.of("---/---/---");
        for (int i = 0; i < 9; i++) {
            check.due("of all ones", x.signed(i / 3, i % 3), 1);
        }
        // The round of six is told by five ones alone; that of four behind it goes by what it has told.
        UnimodularTables y = Check.of("++0/0++/+++");
        PlainModel z = new PlainModel();
        z.feed(Check.words("++0/0++/+++"));
        z.text(0);
        for (int i = 0; i < 9; i++) {
            check.due("signed(" + i / 3 + ", " + i % 3 + ")", y.signed(i / 3, i % 3), z.signed(i / 3, i % 3));
        }
    }

    // ---- 23: regular

    static void promise23RegularAtTheEdges() {
        for (String text : List.of("0", "-", NOUGHTS, ONES, SIX, FIRST, SECOND, NOT_TOTAL)) {
            check.due("regular of " + text, Check.of(text).regular(), 1);
        }
        for (int side = 3; side <= 6; side++) {
            check.due("a round, total or not", Check.of(round(side, '+')).regular(), 1);
            check.due("a round, total or not", Check.of(round(side, '-')).regular(), 1);
        }
        check.due("the plane of seven points", Check.of("++0+/+0++/0+++").regular(), 0);
        check.due("one entry less", Check.of("++0+/+0+0/0+++").regular(), 1);
    }

    static void promise23RegularOfNoTable() {
        for (Supplier<UnimodularTables> state : NO_TABLE) {
            check.refused("regular", state, UnimodularTables::regular, NONE);
        }
    }

    static void promise23RegularLeavesTheTable() {
        check.refused("regular", States::busy, UnimodularTables::regular, 1);
        UnimodularTables x = Check.of(NOT_TOTAL);
        check.due("total", x.total(), 0);
        check.due("regular", x.regular(), 1);
        check.due("total all the same", x.total(), 0);
    }

    // ---- 24: scaled

    static void promise24ScaledToNoSuchKeptOne() {
        for (int far : FAR) {
            check.refused("scaled(" + far + ")", States::busy, x -> x.scaled(far), NONE);
            check.refused("scaled(" + far + ") of four", States::full, x -> x.scaled(far), NONE);
        }
        check.refused("the first that is not kept", States::busy, x -> x.scaled(3), NONE);
        check.refused("the fifth", States::full, x -> x.scaled(4), NONE);
        check.refused("none kept", of("+"), x -> x.scaled(0), NONE);
        check.due("the last kept one", States.busy().scaled(2), 0);
        check.due("the fourth", States.full().scaled(3), 1);
    }

    static void promise24ScaledOfNoTable() {
        for (Supplier<UnimodularTables> state : NO_TABLE) {
            check.refused("scaled", state, x -> x.scaled(0), NONE);
        }
    }

    static void promise24ScaledByOtherSizes() {
        UnimodularTables x = States.keeping("00/00", "00/00/00", "000/000", "00", "0/0");
        for (int kept = 0; kept < 4; kept++) {
            check.due("of other rows or columns", x.scaled(kept), 0);
        }
        check.due("noughts to noughts", States.keeping("00", "00").scaled(0), 1);
    }

    static void promise24ScaledByNoneAndByAll() {
        check.due("by none", States.keeping(ONES, ONES).scaled(0), 1);
        check.due("by one row", States.keeping("+-/0+", "-+/0+").scaled(0), 1);
        check.due("by one column", States.keeping("+-/0+", "--/0+").scaled(0), 1);
        check.due("by the last row and column", States.keeping(ONES, "+++++-/+++++-/+++++-/+++++-/+++++-/-----+").scaled(0), 1);
        check.due("one entry in a round can't", States.keeping("++/++", "++/+-").scaled(0), 0);
        check.due("one entry in no round can", States.keeping("++/0+", "++/0-").scaled(0), 1);
        check.due("a nought can't become one", States.keeping("+0", "++").scaled(0), 0);
        check.due("nor one a nought", States.keeping("++", "+0").scaled(0), 0);
    }

    // ---- 25: special

    static void promise25SpecialOfNoTable() {
        for (Supplier<UnimodularTables> state : NO_TABLE) {
            check.refused("special", state, UnimodularTables::special, NONE);
        }
    }

    static void promise25SpecialAndNeither() {
        check.due("the first", Check.of(FIRST).special(), 1);
        check.due("the second", Check.of(SECOND).special(), 2);
        for (String text : List.of("0", "+", SIX, ONES, NOUGHTS, "+++++/+++++/+++++/+++++/+++++", "00000/00000/00000/00000/00000")) {
            check.due("special of " + text, Check.of(text).special(), 0);
        }
    }

    static void promise25SpecialOfAnotherSize() {
        check.due("a row less", Check.of("+-00-/-+-00/0-+-0/00-+-").special(), 0);
        check.due("a column less", Check.of("+-00/-+-0/0-+-/00-+/-00-").special(), 0);
        check.due("a row of noughts more", Check.of(FIRST + "/00000").special(), 0);
        check.due("a column of noughts more", Check.of("+++++0/+++000/+0++00/+00++0/++00+0").special(), 0);
    }

    static void promise25SpecialByEachNegatingAndChanging() {
        for (String text : List.of(FIRST, SECOND)) {
            int want = text.equals(FIRST) ? 1 : 2;
            for (int a = 0; a < 5; a++) {
                for (int kind = 0; kind < 4; kind++) {
                    UnimodularTables x = Check.of(text);
                    x.deal(kind, a, (a + 2) % 5);
                    check.due("special by deal(" + kind + ", " + a + ")", x.special(), want);
                }
            }
            for (int i = 0; i < 25; i++) {
                UnimodularTables x = Check.of(text);
                int value = x.entry(i / 5, i % 5);
                x.change(i / 5, i % 5, value == 0 ? 1 : 0);
                check.due("special with one entry more or less", x.special(), 0);
                x.undo();
                if (value != 0) {
                    x.change(i / 5, i % 5, -value);
                    check.due("special with one sign wrong", x.special(), 0);
                }
            }
        }
    }

    /** All orders of the rows, each with the columns in another order and signs negated here and there. */
    static void promise25SpecialInEachOrderOfRows() {
        for (String text : List.of(FIRST, SECOND)) {
            int[][] t = PlainModel.parse(text);
            for (int number = 0; number < 120; number++) {
                int[] rows = order(number);
                int[] columns = order(number * 77 % 120);
                StringBuilder moved = new StringBuilder();
                for (int i = 0; i < 25; i++) {
                    int sign = ((number >> i / 5) & 1) == ((number * 5 >> i % 5) & 1) ? 1 : -1;
                    moved.append(i > 0 && i % 5 == 0 ? "/" : "").append("-0+".charAt(1 + sign * t[rows[i / 5]][columns[i % 5]]));
                }
                check.due("special of " + moved, Check.of(moved.toString()).special(), text.equals(FIRST) ? 1 : 2);
            }
        }
    }

    private static int[] order(int number) {
        List<Integer> left = new ArrayList<>(List.of(0, 1, 2, 3, 4));
        int[] result = new int[5];
        int rest = number;
        for (int i = 0; i < 5; i++) {
            result[i] = left.remove(rest % left.size());
            rest /= 5 - i;
        }
        return result;
    }

    // ---- 26: block

    static void promise26BlockHowMany() {
        for (int what : new int[] {States.LEAST, -1, 0, 1, 2, 99, States.GREATEST}) {
            check.due("block(NONE, " + what + ")", States.busy().block(NONE, what), 1);
            check.due("block(NONE, " + what + ") of noughts", Check.of(NOUGHTS).block(NONE, what), 12);
            check.due("block(NONE, " + what + ") of six", Check.of(SIX).block(NONE, what), 6);
        }
        check.due("of one nought", Check.of("0").block(NONE, 0), 2);
        check.due("of one", Check.of("+").block(NONE, 0), 1);
    }

    static void promise26BlockFirstAndLast() {
        UnimodularTables x = Check.of(NOUGHTS);
        for (int i = 0; i < 12; i++) {
            check.due("block(" + i + ", 0)", x.block(i, 0), i < 6 ? 1 << i : 0);
            check.due("block(" + i + ", 1)", x.block(i, 1), i < 6 ? 0 : 1 << (i - 6));
        }
        check.refused("block(12, 0)", of(NOUGHTS), y -> y.block(12, 0), NONE);
        check.due("one block of all", Check.of(ONES).block(0, 0), 63);
        check.due("one block of all", Check.of(ONES).block(0, 1), 63);
    }

    static void promise26BlockInTheirOrder() {
        // Lowest rows 0 (with 3, 4, 5), 1, 2; behind them the columns of noughts, 1 and 4.
        UnimodularTables x = Check.of("00000+/000+00/+00000/00000-/00+000/00+00-");
        int[][] want = {{57, 36}, {2, 8}, {4, 1}, {0, 2}, {0, 16}};
        check.due("blocks", x.block(NONE, 0), want.length);
        for (int i = 0; i < want.length; i++) {
            check.due("block(" + i + ", 0)", x.block(i, 0), want[i][0]);
            check.due("block(" + i + ", 1)", x.block(i, 1), want[i][1]);
        }
    }

    static void promise26BlockThatIsNotThere() {
        for (int far : new int[] {States.LEAST, -1000000, -2, 1, 2, 12, States.GREATEST}) {
            check.refused("block(" + far + ", 0)", States::busy, x -> x.block(far, 0), NONE);
        }
        for (int what : new int[] {States.LEAST, -1, 2, 3, States.GREATEST}) {
            check.refused("block(0, " + what + ")", States::busy, x -> x.block(0, what), NONE);
        }
        check.due("the only one", States.busy().block(0, 1), 7);
    }

    static void promise26BlockOfNoTable() {
        for (Supplier<UnimodularTables> state : NO_TABLE) {
            check.refused("how many", state, x -> x.block(NONE, 0), NONE);
            check.refused("the first", state, x -> x.block(0, 0), NONE);
        }
    }

    // ---- 27: rank

    static void promise27RankBy() {
        for (int by : new int[] {0, 2, 3}) {
            check.due("of noughts by " + by, Check.of(NOUGHTS).rank(by), 0);
            check.due("of ones by " + by, Check.of(ONES).rank(by), 1);
            check.due("of six by " + by, Check.of(SIX).rank(by), 6);
        }
        for (int by : new int[] {States.LEAST, -3, -2, -1, 1, 4, 5, 6, States.GREATEST}) {
            check.refused("rank(" + by + ")", States::busy, x -> x.rank(by), NONE);
        }
    }

    static void promise27RankModulo() {
        check.due("2 is not 0", Check.of("++/-+").rank(0), 2);
        check.due("2 modulo 2", Check.of("++/-+").rank(2), 1);
        check.due("-2 modulo 2", Check.of("++/+-").rank(2), 1);
        check.due("-2 modulo 3", Check.of("++/+-").rank(3), 2);
        check.due("-3 modulo 3", Check.of("0+++/+0++/++0+/+++0").rank(3), 3);
        check.due("-3 modulo 2", Check.of("0+++/+0++/++0+/+++0").rank(2), 4);
        check.due("3 modulo 3", Check.of("+0++/0+++/+++0/++0+").rank(3), 3);
    }

    static void promise27RankOfNoTable() {
        for (Supplier<UnimodularTables> state : NO_TABLE) {
            for (int by = -1; by <= 4; by++) {
                int asked = by;
                check.refused("rank(" + by + ")", state, x -> x.rank(asked), NONE);
            }
        }
    }

    // ---- 28: bases

    static void promise28BasesFromOneUp() {
        check.due("of noughts", Check.of(NOUGHTS).bases(), 1);
        check.due("of one", Check.of("-").bases(), 2);
        check.due("of ones", Check.of(ONES).bases(), 37);
        // 6 + 15 + 20 + 15 + 6 + 1, and 1.
        check.due("of six", Check.of(SIX).bases(), 64);
        check.due("of what is beyond, too", Check.of(NOT_TOTAL).bases(), 6);
    }

    static void promise28BasesOfNoTable() {
        for (Supplier<UnimodularTables> state : NO_TABLE) {
            check.refused("bases", state, UnimodularTables::bases, NONE);
        }
    }

    // ---- 29: mends

    static void promise29MendsOfATotalTable() {
        for (String text : List.of("0", "+", SIX, NOUGHTS, ONES, FIRST)) {
            check.refused("mends of " + text, of(text), UnimodularTables::mends, HIDDEN);
        }
    }

    static void promise29MendsByNone() {
        check.refused("two that need it", of("++00/+-00/00++/00+-"), UnimodularTables::mends, NONE);
        check.refused("one that needs two", of("+++/+-+/++-"), UnimodularTables::mends, NONE);
    }

    static void promise29MendsOfNoTable() {
        for (Supplier<UnimodularTables> state : NO_TABLE) {
            check.refused("mends", state, UnimodularTables::mends, NONE);
        }
    }

    static void promise29MendsFirstEntryAndLeastValue() {
        check.due("row 0, column 0, -1", Check.of("++/-+").mends(), 0);
        // Of -1, 0, 1 the first is what it is; the least other one is 0.
        check.due("row 0, column 0, 0", Check.of("-+/++").mends(), 1);
        check.due("row 0, column 0, 1", Check.of("0++/++0/+0+").mends(), 2);
        check.due("row 0, column 1", Check.of("0++/0+-").mends(), 10);
        check.due("row 1, column 0", Check.of("00/++/+-").mends(), 100);
        check.due("row 4, column 4", Check.of("000000/000000/000000/000000/0000-+/0000++").mends(), 441);
    }

    static void promise29MendsByTheLastEntryAlone() {
        check.due("-1", Check.of("00+000/-0+00+/000-00/0-0000/-0+-0+/+00+++").mends(), 550);
        check.due("0", Check.of("+++/+++/++-").mends(), 221);
        // Its determinant is 2 less the last entry, which is -1: 3; and there are squares of two that need 0 or 1.
        check.due("1", Check.of("000000/000000/000000/0000+-/000+0-/000---").mends(), 552);
    }

    // ---- 30: fragile

    static void promise30FragileFromNoneToAll() {
        check.due("none there", Check.of(NOUGHTS).fragile(), 0);
        check.due("none in a round", Check.of(SIX).fragile(), 0);
        check.due("all", Check.of(ONES).fragile(), 36);
        check.due("those in the round alone", Check.of("++0/++0/0++").fragile(), 4);
        check.due("all of a round of six rows", Check.of(round(6, '+')).fragile(), 12);
        check.due("all of a round of five rows", Check.of(round(5, '-')).fragile(), 10);
    }

    static void promise30FragileOfOneNotTotal() {
        check.refused("fragile", of(NOT_TOTAL), UnimodularTables::fragile, NONE);
        check.refused("fragile", States::busy, UnimodularTables::fragile, NONE);
    }

    static void promise30FragileOfNoTable() {
        for (Supplier<UnimodularTables> state : NO_TABLE) {
            check.refused("fragile", state, UnimodularTables::fragile, NONE);
        }
    }

    // ---- 31: fills

    static void promise31FillsFromNoneToAll() {
        check.due("all three", Check.of(NOUGHTS).fills(5, 5), 7);
        check.due("none", Check.of("++00/+-00/00++/00+-").fills(3, 3), 0);
        check.due("-1 alone", Check.of("0--/--0/-0-").fills(0, 0), 1);
        check.due("1 alone", Check.of("0++/++0/+0+").fills(0, 0), 4);
        check.due("-1 and 0", Check.of("++/-+").fills(0, 0), 3);
        check.due("0 and 1", Check.of("++/++").fills(1, 1), 6);
        check.due("what it is counts, too", Check.of("+").fills(0, 0), 7);
    }

    static void promise31FillsThatIsNotThere() {
        for (int far : FAR) {
            check.refused("fills(" + far + ", 0)", States::busy, x -> x.fills(far, 0), NONE);
            check.refused("fills(0, " + far + ")", States::busy, x -> x.fills(0, far), NONE);
        }
        check.refused("one row more", States::busy, x -> x.fills(2, 0), NONE);
        check.refused("one column more", States::busy, x -> x.fills(0, 3), NONE);
        check.due("the last one", States.busy().fills(1, 2), 6);
        for (Supplier<UnimodularTables> state : NO_TABLE) {
            check.refused("of no table", state, x -> x.fills(0, 0), NONE);
        }
    }

    static void promise31FillsChangesNothing() {
        check.refused("fills", States::busy, x -> x.fills(1, 2), 6);
    }

    // ---- 32: pack

    private static void packIs(String text, int pack, int cover) {
        check.due("pack(0) of " + text, Check.of(text).pack(0), pack);
        check.due("pack(1) of " + text, Check.of(text).pack(1), cover);
    }

    static void promise32PackFromNoneToAll() {
        packIs(NOUGHTS, 63, 0);
        packIs(SIX, 63, 63);
        packIs(ONES, 1, 1);
        packIs("0", 1, 0);
        packIs("+", 1, 1);
        packIs("000000/000000/000000/000000/000000/00000+", 63, 32);
    }

    static void promise32PackOfSeveralTheLeast() {
        packIs("++/00", 1, 1);
        packIs("+0+/0+0", 3, 3);
        packIs("++0/0++/+0+", 1, 3);
        // Columns of noughts are packed, but need no cover.
        packIs("0++0", 11, 1);
        // More columns, though greater bits; fewer rows, though greater bits.
        packIs("+-00/+0-0/-00+", 14, 7);
        packIs("+00/0+0/+++", 1, 4);
    }

    static void promise32PackOfNoSuchWhat() {
        for (int what : new int[] {States.LEAST, -1, 2, 3, States.GREATEST}) {
            check.refused("pack(" + what + ")", States::busy, x -> x.pack(what), NONE);
        }
        for (Supplier<UnimodularTables> state : NO_TABLE) {
            for (int what = -1; what <= 2; what++) {
                int asked = what;
                check.refused("pack(" + what + ")", state, x -> x.pack(asked), NONE);
            }
        }
    }

    // ---- 33: adjoint

    static void promise33AdjointOfNothingLeft() {
        for (String text : List.of("+", "-", "0")) {
            check.due("adjoint of " + text, Check.of(text).adjoint(0, 0), 1);
        }
    }

    static void promise33AdjointAtTheEdges() {
        UnimodularTables x = Check.of(SIX);
        for (int row = 0; row < 6; row++) {
            for (int column = 0; column < 6; column++) {
                check.due("adjoint(" + row + ", " + column + ")", x.adjoint(row, column), row == column ? 1 : 0);
            }
        }
        // Row and column change places: that of row 0, column 1 leaves out row 1 and column 0, and is negated.
        UnimodularTables y = Check.of("0+/-0");
        check.due("adjoint(0, 0)", y.adjoint(0, 0), 0);
        check.due("adjoint(0, 1)", y.adjoint(0, 1), -1);
        check.due("adjoint(1, 0)", y.adjoint(1, 0), 1);
        UnimodularTables z = Check.of("+00/++0/0++");
        check.due("odd: negated", z.adjoint(1, 0), -1);
        check.due("even: not", z.adjoint(2, 0), 1);
        check.due("the other corner", z.adjoint(0, 2), 0);
    }

    static void promise33AdjointThatIsNotThere() {
        for (int far : FAR) {
            check.refused("adjoint(" + far + ", 0)", of("+-/0+"), x -> x.adjoint(far, 0), HIDDEN);
            check.refused("adjoint(0, " + far + ")", of("+-/0+"), x -> x.adjoint(0, far), HIDDEN);
            check.refused("adjoint(" + far + ", 5)", of(SIX), x -> x.adjoint(far, 5), HIDDEN);
        }
        check.refused("one row more", of("+-/0+"), x -> x.adjoint(2, 0), HIDDEN);
        check.refused("one column more", of("+-/0+"), x -> x.adjoint(0, 2), HIDDEN);
        for (Supplier<UnimodularTables> state : NO_TABLE) {
            check.refused("of no table", state, x -> x.adjoint(0, 0), HIDDEN);
        }
    }

    static void promise33AdjointOfMoreRowsOrFewer() {
        check.refused("one column more", States::busy, x -> x.adjoint(0, 0), HIDDEN);
        check.refused("one row more", of("+-/0+/++"), x -> x.adjoint(0, 0), HIDDEN);
        check.refused("one row alone", of("+-"), x -> x.adjoint(0, 0), HIDDEN);
    }

    // ---- 34: cycle

    static void promise34CycleFromFourToTwelve() {
        check.due("of 4", Check.of("+-/-+").cycle(), 4);
        for (int side = 3; side <= 6; side++) {
            check.due("of " + 2 * side, Check.of(round(side, '+')).cycle(), 2 * side);
            check.due("of " + 2 * side + ", whatever the sign", Check.of(round(side, '-')).cycle(), 2 * side);
        }
        check.due("the shortest of two", Check.of("++0000/0++000/+0+000/000++0/000++0/00000+").cycle(), 4);
        check.due("of all ones", Check.of(ONES).cycle(), 4);
    }

    static void promise34CycleThatIsNone() {
        for (String text : List.of("0", "+", "++++++", "+/+/+", SIX, NOUGHTS, "++0/0++/00+")) {
            check.refused("cycle of " + text, of(text), UnimodularTables::cycle, NONE);
        }
        for (Supplier<UnimodularTables> state : NO_TABLE) {
            check.refused("of no table", state, UnimodularTables::cycle, NONE);
        }
    }
}
