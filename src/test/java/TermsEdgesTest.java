import java.util.List;
import java.util.function.Supplier;

/** The edges that the document's section "Terms" names, part by part. */
public final class TermsEdgesTest {
    private static final int NONE = UnimodularTables.NONE;
    private static final int HIDDEN = UnimodularTables.HIDDEN;
    private static final List<Supplier<UnimodularTables>> STATES = List.of(UnimodularTables::new, States::bare, States::busy, States::full);
    private static final Check check = new Check();

    public static void main(String[] args) {
        check.runAll(TermsEdgesTest.class);
    }

    private static int faultOf(int sort, String text) {
        UnimodularTables x = new UnimodularTables();
        Check.tape(x, text);
        return x.fault(sort);
    }

    private static void tableFault(String text, int want) {
        check.due("fault(0) of '" + text + "'", faultOf(0, text), want);
    }

    private static void scriptFault(String text, int want) {
        check.due("fault(1) of '" + text + "'", faultOf(1, text), want);
    }

    /** A table of that size, of ones alone. */
    private static String ones(int rows, int columns) {
        return ("/" + "+".repeat(columns)).repeat(rows).substring(1);
    }

    private static String steps(int n) {
        return ";t".repeat(n).substring(1);
    }

    // ---- part 1

    static void terms1TablesOfOneToSixRowsAndColumns() {
        for (int rows = 1; rows <= 6; rows++) {
            for (int columns = 1; columns <= 6; columns++) {
                UnimodularTables x = Check.of(ones(rows, columns));
                check.due("rows", x.count(0), rows);
                check.due("columns", x.count(1), columns);
            }
        }
        tableFault("", 0);
    }

    static void terms1SeventhEntryOfARow() {
        tableFault("++++++", NONE);
        tableFault("+++++++", 6);
        tableFault("++++++ +", 7);
        tableFault("++++++/+++++++", 13);
    }

    static void terms1SlashOfASeventhRow() {
        for (int columns = 1; columns <= 6; columns++) {
            String six = ones(6, columns);
            tableFault(six, NONE);
            tableFault(six + "/", six.length());
            tableFault(six + " /" + "+".repeat(columns), six.length() + 1);
        }
    }

    static void terms1OneEntryMoreThanTheFirstRow() {
        for (int columns = 1; columns <= 5; columns++) {
            String row = "-".repeat(columns);
            tableFault(row + "/" + row, NONE);
            tableFault(row + "/" + row + "0", 2 * columns + 1);
            tableFault(row + "/" + row + "/" + row + "0/", 3 * columns + 2);
        }
    }

    static void terms1SlashWithFewerAheadOfIt() {
        tableFault("/", 0);
        tableFault("  /+", 2);
        tableFault("+//", 2);
        for (int columns = 2; columns <= 6; columns++) {
            String row = "0".repeat(columns);
            String less = row.substring(1);
            tableFault(row + "/" + row + "/" + row, NONE);
            tableFault(row + "/" + less + "/" + row, 2 * columns);
            tableFault(row + "/" + less + " /", 2 * columns + 1);
            tableFault(row + "//", columns + 1);
        }
    }

    static void terms1TableThatEndsTooEarly() {
        for (String text : List.of("", " ", "   ", "+/", "+/ ", "++/+", "++/+ ", "++++++/+++++", "+/+/+/+/+/", "+/+/+/+/+/ ")) {
            tableFault(text, text.length());
        }
    }

    static void terms1SignsOfATable() {
        for (int sign = 1; sign < 256; sign++) {
            char c = (char) sign;
            boolean entry = "+-0".indexOf(c) >= 0;
            tableFault("" + c, entry ? NONE : c == ' ' ? 1 : 0);
            tableFault("+" + c, entry || c == ' ' ? NONE : c == '/' ? 2 : 1);
            tableFault("+/" + c + "+", entry ? 3 : c == ' ' ? NONE : 2);
        }
    }

    static void terms1BlanksBetweenAllSigns() {
        tableFault(" + - / 0 + ", NONE);
        tableFault("   +   -   /   0   +   ", NONE);
        scriptFault("  r  0  ;  x  0  1  ;  e  0  1  -  ;  t  ", NONE);
        UnimodularTables x = new UnimodularTables();
        Check.tape(x, "  +  -  /  0  + ");
        x.text(0);
        check.showsAs("a text with blanks", x, "+-/0+");
        Check.tape(x, " e  1 2  -  ");
        x.text(1);
        check.due("first digit", x.step(0, 0, 1), 1);
        check.due("second digit", x.step(0, 0, 2), 2);
        check.due("value", x.step(0, 0, 3), -1);
    }

    static void terms1OneToTwelveSteps() {
        scriptFault("", 0);
        scriptFault("  ", 2);
        for (int n = 1; n <= 12; n++) {
            scriptFault(steps(n), NONE);
            scriptFault(steps(n) + ";", n < 12 ? 2 * n : 23);
        }
        scriptFault(steps(13), 23);
        scriptFault(steps(12) + " ; t", 24);
        scriptFault("e00+;".repeat(11) + "e00+;", 59);
        scriptFault("e00+;".repeat(11) + "e00+", NONE);
    }

    static void terms1SignsOfAStep() {
        for (int sign = 1; sign < 256; sign++) {
            char c = (char) sign;
            boolean blank = c == ' ';
            boolean digit = c >= '0' && c <= '9';
            boolean letter = "rcxypte".indexOf(c) >= 0;
            scriptFault("" + c, blank ? 1 : c == 't' ? NONE : letter ? 1 : 0);
            scriptFault("t" + c, blank ? NONE : c == ';' ? 2 : 1);
            for (String one : List.of("r", "c")) {
                scriptFault(one + c, digit ? NONE : blank ? 2 : 1);
                scriptFault(one + "0" + c, blank ? NONE : c == ';' ? 3 : 2);
            }
            for (String two : List.of("x", "y", "p")) {
                scriptFault(two + c + "0", digit ? NONE : blank ? 3 : 1);
                scriptFault(two + "0" + c, digit ? NONE : blank ? 3 : 2);
                scriptFault(two + "00" + c, blank ? NONE : c == ';' ? 4 : 3);
            }
            scriptFault("e" + c + "0-", digit ? NONE : blank ? 3 : 1);
            scriptFault("e0" + c + "-", digit ? NONE : blank ? 3 : 2);
            scriptFault("e00" + c, "+-0".indexOf(c) >= 0 ? NONE : blank ? 4 : 3);
            scriptFault("e00-" + c, blank ? NONE : c == ';' ? 5 : 4);
        }
    }

    static void terms1ScriptThatEndsTooEarly() {
        for (String text : List.of("", " ", "r", "r ", "c", "x", "x0", "x0 ", "y1", "p9", "e", "e0", "e00", "e00 ", "t;", "t; ", "t;x1")) {
            scriptFault(text, text.length());
        }
    }

    static void terms1StepThatCantBeIsNoFault() {
        for (String text : List.of("r9", "c9", "x99", "y00", "p99", "e99+", "x00;p77;e880")) {
            scriptFault(text, NONE);
            check.due("text(1) of " + text, textOf(1, text), 0);
        }
    }

    private static int textOf(int sort, String text) {
        UnimodularTables x = new UnimodularTables();
        Check.tape(x, text);
        return x.text(sort);
    }

    static void terms1FourScriptsAtMost() {
        UnimodularTables x = new UnimodularTables();
        for (int i = 0; i < 6; i++) {
            Check.tape(x, "t");
            check.due("script " + i, x.text(1), i < 4 ? i : NONE);
            check.due("scripts", x.count(3), Math.min(i + 1, 4));
        }
    }

    // ---- part 2

    static void terms2AtFirstNoTable() {
        UnimodularTables x = new UnimodularTables();
        check.due("rows", x.count(0), 0);
        check.due("columns", x.count(1), 0);
        check.due("total", x.total(), NONE);
    }

    static void terms2FourKeptAtMost() {
        UnimodularTables x = Check.of("+");
        for (int i = 0; i < 6; i++) {
            check.due("keep", x.keep(), i < 4 ? i : NONE);
            check.due("kept", x.count(2), Math.min(i + 1, 4));
        }
    }

    static void terms2SetToEachValue() {
        for (int from = -1; from <= 1; from++) {
            for (int to = -2; to <= 2; to++) {
                int v = to;
                String text = "-0+".substring(from + 1, from + 2);
                Supplier<UnimodularTables> made = () -> Check.of(text);
                if (to < -1 || to > 1) {
                    check.refused("change to " + to, made, x -> x.change(0, 0, v), HIDDEN, 1);
                } else if (to == from) {
                    check.refused("change to " + to, made, x -> x.change(0, 0, v), HIDDEN, 2);
                } else {
                    UnimodularTables x = made.get();
                    check.due("change to " + to, x.change(0, 0, v), from);
                    check.due("entry", Check.entry(x, 0, 0), to);
                }
            }
        }
    }

    static void terms2NegatedLeavesNoughts() {
        UnimodularTables x = Check.of("+-0/0+-");
        x.deal(0, 0, 0);
        check.showsAs("a row negated", x, "-+0/0+-");
        x.deal(1, 2, 0);
        check.showsAs("a column negated", x, "-+0/0++");
        UnimodularTables noughts = Check.of("00/00");
        check.due("a row of noughts is negated all the same", noughts.deal(0, 1, 0), 1);
        check.due("a column of noughts likewise", noughts.deal(1, 1, 0), 2);
    }

    static void terms2ChangedMustBeUnlike() {
        UnimodularTables x = Check.of("+-/+-/0+");
        check.due("two rows that say the same are two", x.deal(2, 0, 1), 1);
        check.due("two columns", x.deal(3, 0, 1), 2);
        check.showsAs("changed", x, "-+/-+/+0");
        for (int i = 0; i < 3; i++) {
            int row = i;
            check.refused("a row with itself", () -> Check.of("+-/+-/0+"), y -> y.deal(2, row, row), NONE, 2);
        }
        check.refused("a column with itself", () -> Check.of("+-/+-/0+"), y -> y.deal(3, 1, 1), NONE, 2);
    }

    static void terms2DroppedNeedsTwo() {
        UnimodularTables x = Check.of("+-0/0+-/+++");
        check.due("of three rows", x.deal(6, 2, 0), 1);
        check.due("of two rows", x.deal(6, 0, 0), 2);
        check.showsAs("dropped", x, "0+-");
        check.due("of three columns", x.deal(7, 1, 0), 3);
        check.due("of two columns", x.deal(7, 0, 0), 4);
        check.showsAs("dropped", x, "-");
        check.refused("of one row", () -> Check.of("+-"), y -> y.deal(6, 0, 0), NONE, 3);
        check.refused("of one column", () -> Check.of("+/-"), y -> y.deal(7, 0, 0), NONE, 3);
    }

    static void terms2TurnedNeedsAnEntry() {
        check.refused("turned on 0", () -> Check.of("0+/++"), x -> x.deal(4, 0, 0), NONE, 2);
        check.due("turned on 1", Check.of("+").deal(4, 0, 0), 1);
        check.due("turned on -1", Check.of("-").deal(4, 0, 0), 1);
    }

    /** Each table of two rows and columns, turned on its first entry: 1 and 2, -1 and -2 are the last within and first beyond. */
    static void terms2TurnedOnlyWithinOne() {
        for (int number = 0; number < 81; number++) {
            int e = number % 3 - 1;
            int right = number / 3 % 3 - 1;
            int below = number / 9 % 3 - 1;
            int last = number / 27 - 1;
            String text = sign(e) + sign(right) + "/" + sign(below) + sign(last);
            int turned = last - e * below * right;
            if (e == 0) {
                check.refused("turned " + text, () -> Check.of(text), x -> x.deal(4, 0, 0), NONE, 2);
            } else if (turned < -1 || turned > 1) {
                check.refused("turned " + text, () -> Check.of(text), x -> x.deal(4, 0, 0), NONE, 3);
            } else {
                UnimodularTables x = Check.of(text);
                check.due("turned " + text, x.deal(4, 0, 0), 1);
                check.showsAs("turned " + text, x, sign(-e) + sign(right * e) + "/" + sign(below * e) + sign(turned));
            }
        }
    }

    private static String sign(int value) {
        return "-0+".substring(value + 1, value + 2);
    }

    static void terms2JoinedUpToSix() {
        for (int one = 1; one <= 6; one++) {
            for (int other = 1; other <= 6; other++) {
                int sum = one + other;
                String rows = ones(one, 1);
                String moreRows = ones(other, 1);
                String columns = ones(1, one);
                String moreColumns = ones(1, other);
                if (sum <= 6) {
                    check.due("joined rows", States.keeping("0", rows, moreRows).join(0, 1, 0), sum);
                    UnimodularTables x = States.keeping("0", columns, moreColumns);
                    check.due("joined columns", x.join(0, 1, 0), 2);
                    check.due("columns", x.count(1), sum);
                } else {
                    check.refused("joined rows", () -> States.keeping("0", rows, moreRows), x -> x.join(0, 1, 0), NONE, 3);
                    check.refused("joined columns", () -> States.keeping("0", columns, moreColumns), x -> x.join(0, 1, 0), NONE, 3);
                }
            }
        }
    }

    static void terms2LinkedUpToSix() {
        UnimodularTables rows = States.keeping("0", ones(4, 2), ones(3, 1), ones(5, 2), ones(2, 1));
        check.due("6 rows", rows.join(0, 1, 1), 6);
        check.due("6 rows", rows.join(2, 3, 1), 6);
        check.refused("7 rows", () -> States.keeping("0", ones(5, 2), ones(3, 1)), x -> x.join(0, 1, 1), NONE, 3);
        check.refused("7 rows", () -> States.keeping("0", ones(6, 2), ones(2, 1)), x -> x.join(0, 1, 1), NONE, 3);
        UnimodularTables columns = States.keeping("0", ones(1, 4), ones(2, 3), ones(1, 2), ones(2, 5));
        columns.join(0, 1, 1);
        check.due("6 columns", columns.count(1), 6);
        columns.join(2, 3, 1);
        check.due("6 columns", columns.count(1), 6);
        check.refused("7 columns", () -> States.keeping("0", ones(1, 5), ones(2, 3)), x -> x.join(0, 1, 1), NONE, 3);
        check.refused("7 columns", () -> States.keeping("0", ones(1, 2), ones(2, 6)), x -> x.join(0, 1, 1), NONE, 3);
    }

    static void terms2LinkedNeedsTwoColumnsAndTwoRows() {
        UnimodularTables x = States.keeping("0", "+-", "-/+");
        check.due("two columns and two rows", x.join(0, 1, 1), 2);
        check.showsAs("linked", x, "++/0+");
        check.refused("one column", () -> States.keeping("0", "+/-", "-/+"), y -> y.join(0, 1, 1), NONE, 3);
        check.refused("one row", () -> States.keeping("0", "+-", "-+"), y -> y.join(0, 1, 1), NONE, 3);
        check.refused("one of either", () -> States.keeping("0", "+", "-"), y -> y.join(0, 1, 1), NONE, 3);
    }

    static void terms2LatestFortyCanBeUndone() {
        UnimodularTables x = Check.of("000000/000000/000000/000000/000000/000000");
        for (int i = 0; i < 36; i++) {
            x.change(i / 6, i % 6, 1);
        }
        for (int i = 0; i < 4; i++) {
            check.due("an act", x.deal(0, i, 0), 37 + i);
        }
        check.due("the 41st act", x.deal(0, 4, 0), 40);
        for (int left = 39; left >= 0; left--) {
            check.due("undo", x.undo(), left);
        }
        check.showsAs("forty undone", x, "+00000/000000/000000/000000/000000/000000");
        check.due("undo", x.undo(), NONE);
        check.showsAs("no more", x, "+00000/000000/000000/000000/000000/000000");
    }

    static void terms2EachKindOfActCanBeUndone() {
        UnimodularTables x = States.keeping("+-/0+", "+-", "-/+");
        Check.script(x, "r0;t");
        int[] acts = {x.deal(0, 0, 0), x.deal(1, 1, 0), x.deal(2, 0, 1), x.deal(3, 0, 1), x.deal(4, 0, 0), x.deal(5, 0, 0), x.deal(6, 0, 0),
            x.deal(7, 0, 0)};
        for (int i = 0; i < acts.length; i++) {
            check.due("deal " + i, acts[i], i + 1);
        }
        check.due("change", x.change(0, 0, 0) != HIDDEN, true);
        check.due("joined", x.join(0, 1, 0), 3);
        check.due("linked", x.join(0, 1, 1), 2);
        check.due("a script", x.perform(0), 2);
        check.due("acts", x.count(5), 13);
        for (int left = 12; left >= 0; left--) {
            check.due("undo", x.undo(), left);
            if (left == 11) {
                check.showsAs("undoing what came behind linked", x, "++/0+");
            } else if (left == 10) {
                check.showsAs("undoing linked", x, "+-0/00-/00+");
            }
        }
        check.showsAs("all undone", x, "+-/0+");
    }

    static void terms2StatusOfSeveralTheFirst() {
        check.refused("no table, no such kind", States::bare, x -> x.deal(99, -1, -1), NONE, 0);
        check.refused("no table, out of bounds", States::bare, x -> x.change(-1, 9, 9), HIDDEN, 0);
        check.refused("no kept one, no such kind", States::busy, x -> x.join(3, 0, 2), NONE, 0);
        check.refused("no such row, alike", States::busy, x -> x.deal(2, 2, 2), NONE, 1);
        check.refused("no such column, alike", States::busy, x -> x.deal(3, 3, 3), NONE, 1);
        check.refused("no such row, one alone", () -> Check.of("+"), x -> x.deal(6, 1, 0), NONE, 1);
        check.refused("no such column, one alone", () -> Check.of("+"), x -> x.deal(7, -1, 0), NONE, 1);
        check.refused("no such kind, seven rows", () -> States.keeping("0", ones(6, 1)), x -> x.join(0, 0, 2), NONE, 1);
        // It would be 2, could an entry of 0 be turned on.
        check.refused("the entry is 0", () -> Check.of("0+/++"), x -> x.deal(4, 0, 0), NONE, 2);
    }

    static void terms2StatusIsNotUndone() {
        UnimodularTables x = States.busy();
        int[] before = {x.status(0), x.status(1), x.status(2), x.status(3)};
        check.due("refused before", before[0] * before[1] * before[2] * before[3], 1);
        while (x.undo() >= 0) {
            check.due("status stays", x.status(0) + x.status(1) + x.status(2) + x.status(3), 4);
        }
        x.back();
        for (int what = 0; what < 4; what++) {
            check.due("status(" + what + ")", x.status(what), before[what]);
        }
    }

    // ---- part 3

    static void terms3TotalIsWithinOne() {
        String[] within = {"0", "+", "-", "++/++", "++/0+", "+0/+-"};
        for (String text : within) {
            check.due("total of " + text, Check.of(text).total(), 1);
        }
        check.due("a determinant of 2", Check.of("++/-+").total(), 0);
        check.due("a determinant of -2", Check.of("++/+-").total(), 0);
    }

    static void terms3SquaresOfOneOrMore() {
        for (Supplier<UnimodularTables> state : STATES) {
            check.refused("a square of none", state, x -> x.det(0, 0), HIDDEN);
        }
    }

    static void terms3HalvesOfNoneAndByNone() {
        check.due("halves of none", Check.of("++/-+").halves(0), 0);
        check.due("a part that is none", Check.of("+-/-+").halves(3), 0);
    }

    static void terms3WayOfNoArcs() {
        UnimodularTables x = Check.of("0+/0-");
        check.due("a column of noughts is a way", x.network(0), 1);
        check.due("it has no arc", x.way(0, 0, 0), NONE);
        check.due("a table of noughts is a network", Check.of("000/000").network(0), 1);
        check.due("and the other way round", Check.of("000/000").network(1), 1);
    }

    static void terms3FirstTreeIsTaken() {
        UnimodularTables x = Check.of("0");
        check.due("node 0, way 0", x.arc(0, 0, 0), 0);
        check.due("the new node", x.arc(0, 0, 1), 1);
        // Of all nodes rising, of all sets rising (0, too), way 0 then 1: the last row can hang at node 0 by way 1.
        UnimodularTables y = Check.of("+/+");
        check.due("way 1 from the new node", y.arc(0, 1, 0), 2);
        check.due("to node 0", y.arc(0, 1, 1), 0);
    }

    static void terms3SignsAreTimesFour() {
        // A round of four: 1 + 1 + 1 and 1. One of six: 5 and -1. One of eight: 7 and 1. One of ten: 9 and -1. One of twelve: 11 and 1.
        check.due("a round of 4", Check.of("++/++").signed(1, 1), 1);
        check.due("a round of 6", Check.of("++0/0++/+0+").signed(2, 2), -1);
        check.due("a round of 8", Check.of("++00/0++0/00++/+00+").signed(3, 3), 1);
        check.due("a round of 10", Check.of("++000/0++00/00++0/000++/+000+").signed(4, 4), -1);
        check.due("a round of 12", Check.of("++0000/0++000/00++00/000++0/0000++/+0000+").signed(5, 5), 1);
    }

    static void terms3RowsAndColumnsOfNoughtAreBlocks() {
        UnimodularTables x = Check.of("00/0+");
        check.due("blocks", x.block(NONE, 0), 3);
        check.due("the row of noughts", x.block(0, 0), 1);
        check.due("it has no column", x.block(0, 1), 0);
        check.due("the entry's row", x.block(1, 0), 2);
        check.due("the column of noughts has no row", x.block(2, 0), 0);
        check.due("the column of noughts is behind", x.block(2, 1), 1);
    }

    static void terms3AdjointOfNothingLeft() {
        check.due("adjoint of one", Check.of("-").adjoint(0, 0), 1);
    }

    // ---- the constants, and what is refused

    static void terms4Constants() {
        check.due("NONE", UnimodularTables.NONE, -1);
        check.due("HIDDEN", UnimodularTables.HIDDEN, -1000000);
    }

    static void terms4WhatIsRefusedChangesNothingButStatus() {
        for (Supplier<UnimodularTables> state : STATES) {
            check.refused("end", state, x -> x.end(241) ? 1 : 0, 0);
            check.refused("fault", state, x -> x.fault(2), -2);
            check.refused("text", state, x -> x.text(2), NONE);
            check.refused("entry", state, x -> Check.entry(x, 6, 0), Check.THROWN);
            check.refused("kept", state, x -> x.kept(4, 0, 0), HIDDEN);
            check.refused("join", state, x -> x.join(4, 0, 0), NONE, 0);
            check.refused("det", state, x -> x.det(64, 1), HIDDEN);
            check.refused("squares", state, x -> x.squares(7, 0), NONE);
            check.refused("witness", state, x -> x.witness(4), HIDDEN);
            check.refused("halves", state, x -> x.halves(64), NONE);
            check.refused("network", state, x -> x.network(2), NONE);
            check.refused("arc", state, x -> x.arc(0, 6, 0), NONE);
            check.refused("way", state, x -> x.way(0, 6, 0), NONE);
            check.refused("signed", state, x -> x.signed(0, 6), HIDDEN);
            check.refused("scaled", state, x -> x.scaled(4), NONE);
            check.refused("block", state, x -> x.block(12, 0), NONE);
            check.refused("rank", state, x -> x.rank(1), NONE);
            check.refused("fills", state, x -> x.fills(6, 0), NONE);
            check.refused("pack", state, x -> x.pack(2), NONE);
            check.refused("adjoint", state, x -> x.adjoint(6, 6), HIDDEN);
            check.refused("step", state, x -> x.step(4, 0, 0), HIDDEN);
            check.refused("run", state, x -> x.run(4, 0), HIDDEN);
            check.refused("perform", state, x -> x.perform(4), NONE);
            check.refused("draws", state, x -> x.draws(31, 1), NONE);
            check.refused("status", state, x -> x.status(4), NONE);
            check.refused("count", state, x -> x.count(7), HIDDEN);
        }
    }
}
