import java.util.List;
import java.util.function.Supplier;

/** The edges of promises 13 to 21: squares, halves, trees. */
public final class Promises13To21EdgesTest {
    private static final int NONE = UnimodularTables.NONE;
    private static final int HIDDEN = UnimodularTables.HIDDEN;
    private static final int[] FAR = {States.LEAST, -1000000, -2, -1, 64, 65, States.GREATEST};
    private static final String SIX = "+00000/0+0000/00+000/000+00/0000+0/00000+";
    private static final String NOUGHTS = "000000/000000/000000/000000/000000/000000";
    private static final List<Supplier<UnimodularTables>> NO_TABLE = List.of(UnimodularTables::new, States::bare);
    private static final Check check = new Check();

    public static void main(String[] args) {
        check.runAll(Promises13To21EdgesTest.class);
    }

    private static Supplier<UnimodularTables> of(String text) {
        return () -> Check.of(text);
    }

    // ---- 13: det

    static void promise13DetOfOneAndOfAll() {
        UnimodularTables x = Check.of("+-0/0+-/-0-");
        for (int row = 0; row < 3; row++) {
            for (int column = 0; column < 3; column++) {
                check.due("of one", x.det(1 << row, 1 << column), x.entry(row, column));
            }
        }
        // 1 * (1 * -1 - -1 * 0) - -1 * (0 * -1 - -1 * -1) = -1 - 1.
        check.due("of all", x.det(7, 7), -2);
        check.due("of all six", Check.of(SIX).det(63, 63), 1);
        check.due("the last of six", Check.of(SIX).det(32, 32), 1);
        check.due("the farthest one", Check.of("-").det(1, 1), -1);
    }

    static void promise13DetKeepsTheirOrder() {
        UnimodularTables x = Check.of("0+0/+00/00+");
        check.due("rows 0 and 1", x.det(3, 3), -1);
        check.due("all", x.det(7, 7), -1);
        check.due("rows 0 and 2, columns 1 and 2", x.det(5, 6), 1);
    }

    static void promise13DetOfNoSuchSquare() {
        int[][] wrong = {{0, 0}, {0, 1}, {1, 0}, {1, 3}, {3, 1}, {3, 7}, {4, 1}, {5, 3}, {7, 7}, {1, 8}, {3, 9}, {-1, -1}, {-4, 3}, {3, -4}};
        for (int[] sets : wrong) {
            check.refused("det(" + sets[0] + ", " + sets[1] + ")", States::busy, x -> x.det(sets[0], sets[1]), HIDDEN);
        }
        for (int far : FAR) {
            check.refused("det(" + far + ", 1)", States::busy, x -> x.det(far, 1), HIDDEN);
            check.refused("det(1, " + far + ")", States::busy, x -> x.det(1, far), HIDDEN);
            check.refused("det(" + far + ", " + far + ")", of(SIX), x -> x.det(far, far), HIDDEN);
        }
        check.due("the last row and column there are", States.busy().det(2, 4), -1);
        check.due("all rows, the last columns", States.busy().det(3, 6), -2);
    }

    static void promise13DetOfNoTable() {
        for (Supplier<UnimodularTables> state : NO_TABLE) {
            check.refused("det(1, 1)", state, x -> x.det(1, 1), HIDDEN);
            check.refused("det(0, 0)", state, x -> x.det(0, 0), HIDDEN);
        }
    }

    // ---- 14: squares

    static void promise14SquaresOfOneToSix() {
        int[] all = {36, 225, 400, 225, 36, 1};
        int[] ones = {6, 15, 20, 15, 6, 1};
        for (int k = 1; k <= 6; k++) {
            check.due("noughts of " + k, Check.of(NOUGHTS).squares(k, 0), all[k - 1]);
            check.due("squares(" + k + ", 0)", Check.of(SIX).squares(k, 0), all[k - 1] - ones[k - 1]);
            check.due("squares(" + k + ", 1)", Check.of(SIX).squares(k, 1), ones[k - 1]);
            check.due("squares(" + k + ", 2)", Check.of(SIX).squares(k, 2), 0);
        }
    }

    static void promise14SquaresOfMoreThanThereAre() {
        for (int k = 3; k <= 6; k++) {
            for (int what = 0; what <= 2; what++) {
                check.due("squares(" + k + ", " + what + ") of two rows", States.busy().squares(k, what), 0);
            }
        }
        check.due("of two columns", Check.of("++/++/++").squares(3, 0), 0);
    }

    static void promise14SquaresOutOfBounds() {
        for (int k : new int[] {States.LEAST, -1, 0, 7, 8, States.GREATEST}) {
            check.refused("squares(" + k + ", 0)", States::busy, x -> x.squares(k, 0), NONE);
            check.refused("squares(" + k + ", 0)", of(SIX), x -> x.squares(k, 0), NONE);
        }
        for (int what : new int[] {States.LEAST, -1, 3, States.GREATEST}) {
            check.refused("squares(1, " + what + ")", States::busy, x -> x.squares(1, what), NONE);
        }
    }

    static void promise14SquaresOneAndBeyond() {
        check.due("1 and -1", Check.of("+-").squares(1, 1), 2);
        check.due("2 is beyond", Check.of("++/-+").squares(2, 2), 1);
        check.due("-2 is beyond", Check.of("++/+-").squares(2, 2), 1);
        check.due("-1 is not", Check.of("0+/+0").squares(2, 1), 1);
    }

    static void promise14SquaresOfNoTable() {
        for (Supplier<UnimodularTables> state : NO_TABLE) {
            for (int k = 0; k <= 7; k++) {
                int size = k;
                check.refused("squares(" + k + ", 0)", state, x -> x.squares(size, 0), NONE);
            }
        }
    }

    // ---- 15: total

    static void promise15TotalAtTheEdge() {
        check.due("determinants of 1", Check.of(SIX).total(), 1);
        check.due("determinants of -1", Check.of("0-/-0").total(), 1);
        check.due("one of 2", Check.of("++/-+").total(), 0);
        check.due("one of -2", Check.of("++/+-").total(), 0);
        check.due("noughts", Check.of(NOUGHTS).total(), 1);
        check.due("the last square alone", Check.of("000000/000000/000000/000000/0000++/0000+-").total(), 0);
        // A round of six rows with one sign: of all squares only the whole is beyond.
        check.due("the whole alone", Check.of("++0000/0++000/00++00/000++0/0000++/-0000+").total(), 0);
        check.due("the whole, the other sign", Check.of("++0000/0++000/00++00/000++0/0000++/+0000+").total(), 1);
    }

    static void promise15TotalOfNoTable() {
        for (Supplier<UnimodularTables> state : NO_TABLE) {
            check.refused("total", state, UnimodularTables::total, NONE);
        }
    }

    static void promise15TotalFollowsEachChange() {
        UnimodularTables x = States.keeping("++/-+", "++/-+", "+");
        Check.script(x, "e100");
        x.image();
        check.due("total", x.total(), 0);
        x.change(1, 0, 0);
        check.due("behind change", x.total(), 1);
        x.undo();
        check.due("behind undo", x.total(), 0);
        x.perform(0);
        check.due("behind perform", x.total(), 1);
        x.back();
        check.due("behind back", x.total(), 0);
        x.deal(6, 0, 0);
        check.due("behind deal", x.total(), 1);
        x.join(0, 1, 0);
        check.due("behind join", x.total(), 0);
        Check.table(x, "+-");
        check.due("behind text", x.total(), 1);
    }

    // ---- 16: witness

    static void promise16WitnessOfATotalTable() {
        for (int what = -1; what <= 4; what++) {
            int asked = what;
            check.refused("witness(" + what + ")", of(SIX), x -> x.witness(asked), HIDDEN);
            check.refused("witness(" + what + ")", of("0"), x -> x.witness(asked), HIDDEN);
        }
    }

    static void promise16WitnessOfNoTable() {
        for (Supplier<UnimodularTables> state : NO_TABLE) {
            for (int what = -1; what <= 4; what++) {
                int asked = what;
                check.refused("witness(" + what + ")", state, x -> x.witness(asked), HIDDEN);
            }
        }
    }

    static void promise16WitnessOfNoSuchWhat() {
        for (int what : new int[] {States.LEAST, -1, 4, 5, States.GREATEST}) {
            check.refused("witness(" + what + ")", States::busy, x -> x.witness(what), HIDDEN);
        }
    }

    private static void witnessIs(String text, int size, int rows, int columns, int det) {
        UnimodularTables x = Check.of(text);
        check.due("witness(0) of " + text, x.witness(0), size);
        check.due("witness(1) of " + text, x.witness(1), rows);
        check.due("witness(2) of " + text, x.witness(2), columns);
        check.due("witness(3) of " + text, x.witness(3), det);
    }

    static void promise16WitnessOfSeveral() {
        // The fewest rows come first, even where their bits are greater.
        witnessIs("++000/0++00/+0+00/000++/000+-", 2, 24, 24, -2);
        // Then the least rows, even where the columns are greater: rows 0 and 1 at columns 0 and 3, not 0 and 2 at 0 and 1.
        witnessIs("++++/++0-/+-0+", 2, 3, 9, -2);
        witnessIs("00++/00+-/++00/+-00", 2, 3, 12, -2);
        // Then the least columns.
        witnessIs("++++/+--+", 2, 3, 3, -2);
        witnessIs("+0++/+0--", 2, 3, 5, -2);
        // As large as can be.
        witnessIs("++0000/0++000/00++00/000++0/0000++/-0000+", 6, 63, 63, 2);
    }

    // ---- 17: halves

    static void promise17HalvesOfNoneAndAll() {
        UnimodularTables x = Check.of("+/+/+/+/+/+");
        check.due("of none", x.halves(0), 0);
        check.due("of one", x.halves(1), 0);
        check.due("of the last", x.halves(32), 0);
        check.due("of two", x.halves(48), 16);
        check.due("of all", x.halves(63), 7);
        check.refused("of a seventh", of("+/+/+/+/+/+"), y -> y.halves(64), NONE);
        check.due("of none of a table that has none else", Check.of("++/-+").halves(0), 0);
    }

    static void promise17HalvesOfNoSuchRows() {
        check.due("both rows", Check.of("+0/0+").halves(3), 0);
        for (int rows : new int[] {States.LEAST, -4, -1, 4, 5, 7, 64, States.GREATEST}) {
            check.refused("halves(" + rows + ")", States::busy, x -> x.halves(rows), NONE);
        }
    }

    static void promise17HalvesThatAreNone() {
        check.refused("sums of 2 and 0 alone", of("++/+-"), x -> x.halves(3), NONE);
        check.refused("of three", of("++0/0++/+0+"), x -> x.halves(7), NONE);
    }

    static void promise17HalvesWithinOne() {
        // Less: -1 - 1; together: 2; one less the other: 0.
        check.due("two alike", Check.of("+/+").halves(3), 1);
        check.due("a sum of -1 for none", Check.of("+").halves(1), 0);
        check.due("a sum of 1 for none", Check.of("-").halves(1), 0);
        check.due("a sum of -2 for none is beyond", Check.of("+/0/+").halves(5), 1);
        check.due("a sum of 2 for none is beyond", Check.of("-/0/-").halves(5), 1);
    }

    static void promise17HalvesOfNoTable() {
        for (Supplier<UnimodularTables> state : NO_TABLE) {
            for (int rows = -1; rows <= 1; rows++) {
                int asked = rows;
                check.refused("halves(" + rows + ")", state, x -> x.halves(asked), NONE);
            }
        }
    }

    // ---- 18: unhalved

    static void promise18UnhalvedWhereAllHaveHalves() {
        check.refused("unhalved", of(SIX), UnimodularTables::unhalved, NONE);
        check.refused("unhalved", of("+"), UnimodularTables::unhalved, NONE);
        check.refused("unhalved", of("++++++/++++++/++++++/++++++/++++++/++++++"), UnimodularTables::unhalved, NONE);
    }

    static void promise18UnhalvedOfSeveralTheLeast() {
        check.due("rows 0 and 1", Check.of("++/+-/++").unhalved(), 3);
        check.due("rows 0 and 2", Check.of("++/++/+-").unhalved(), 5);
        check.due("the last two", Check.of("000000/000000/000000/000000/0000++/0000+-").unhalved(), 48);
        check.due("all six", Check.of("++0000/0++000/00++00/000++0/0000++/-0000+").unhalved(), 63);
    }

    static void promise18UnhalvedOfNoTable() {
        for (Supplier<UnimodularTables> state : NO_TABLE) {
            check.refused("unhalved", state, UnimodularTables::unhalved, NONE);
        }
    }

    // ---- 19: network

    static void promise19NetworkOfBothSides() {
        for (String text : List.of("0", "+", "-", SIX, NOUGHTS, "++++++", "+/-/0/+/-/0")) {
            check.due("network(0) of " + text, Check.of(text).network(0), 1);
            check.due("network(1) of " + text, Check.of(text).network(1), 1);
        }
        check.due("not total", Check.of("++/-+").network(0), 0);
        check.due("not total", Check.of("++/-+").network(1), 0);
        // All pairs of five nodes: a tree, but no cotree.
        UnimodularTables x = Check.of("+00+0+/++0+++/0+++++/00+0++");
        check.due("network(0) of five nodes", x.network(0), 1);
        check.due("network(1) of five nodes", x.network(1), 0);
    }

    static void promise19NetworkFollowsEachChange() {
        UnimodularTables x = Check.of("++/-+");
        for (int side = 0; side <= 1; side++) {
            check.due("none", x.network(side), 0);
            check.due("no arc", x.arc(side, 0, 0), NONE);
            x.change(1, 0, 1);
            check.due("behind change", x.network(side), 1);
            check.due("an arc", x.arc(side, 0, 0), 0);
            check.due("a way", x.way(side, 0, 0) != NONE, true);
            x.undo();
            check.due("behind undo", x.network(side), 0);
            check.due("no way", x.way(side, 0, 0), NONE);
        }
    }

    static void promise19NetworkOfNoSuchSide() {
        for (int side : new int[] {States.LEAST, -2, -1, 2, 3, States.GREATEST}) {
            check.refused("network(" + side + ")", States::busy, x -> x.network(side), NONE);
            check.refused("network(" + side + ")", of(SIX), x -> x.network(side), NONE);
        }
    }

    static void promise19NetworkOfNoTable() {
        for (Supplier<UnimodularTables> state : NO_TABLE) {
            for (int side = -1; side <= 2; side++) {
                int asked = side;
                check.refused("network(" + side + ")", state, x -> x.network(asked), NONE);
            }
        }
    }

    // ---- 20: arc

    static void promise20ArcOfTheFirstAndLast() {
        UnimodularTables x = Check.of("000000/000000/000000/000000/000000/000000");
        for (int side = 0; side <= 1; side++) {
            for (int arc = 0; arc < 6; arc++) {
                check.due("from", x.arc(side, arc, 0), 0);
                check.due("to", x.arc(side, arc, 1), arc + 1);
            }
        }
    }

    /** The third arc can hang nowhere: it has to come between the two that meet at node 0, with the set of arc 0 (not 0). */
    static void promise20ArcOfAPartedNode() {
        UnimodularTables x = Check.of("++0/+0+/+++");
        int[][] want = {{3, 1}, {2, 0}, {0, 3}};
        for (int arc = 0; arc < 3; arc++) {
            check.due("arc " + arc + " from", x.arc(0, arc, 0), want[arc][0]);
            check.due("arc " + arc + " to", x.arc(0, arc, 1), want[arc][1]);
        }
    }

    static void promise20ArcThatIsNotThere() {
        String text = "+0+/0++";
        for (int far : FAR) {
            check.refused("arc(" + far + ", 0, 0)", of(text), x -> x.arc(far, 0, 0), NONE);
            check.refused("arc(0, " + far + ", 0)", of(text), x -> x.arc(0, far, 0), NONE);
            check.refused("arc(1, " + far + ", 0)", of(text), x -> x.arc(1, far, 0), NONE);
            check.refused("arc(0, 0, " + far + ")", of(text), x -> x.arc(0, 0, far), NONE);
        }
        check.refused("side 2", of(text), x -> x.arc(2, 0, 0), NONE);
        check.refused("one row more", of(text), x -> x.arc(0, 2, 0), NONE);
        check.refused("one column more", of(text), x -> x.arc(1, 3, 0), NONE);
        check.refused("what 2", of(text), x -> x.arc(0, 0, 2), NONE);
        check.refused("a seventh row", of(SIX), x -> x.arc(0, 6, 0), NONE);
        check.due("the last row", Check.of(text).arc(0, 1, 1), 0);
        check.due("the last column", Check.of(text).arc(1, 2, 1), 0);
    }

    static void promise20ArcWithoutATree() {
        for (int side = 0; side <= 1; side++) {
            int asked = side;
            check.refused("arc of no tree", of("++/-+"), x -> x.arc(asked, 0, 0), NONE);
            for (Supplier<UnimodularTables> state : NO_TABLE) {
                check.refused("arc of no table", state, x -> x.arc(asked, 0, 0), NONE);
            }
        }
        // A tree on one side alone.
        UnimodularTables x = Check.of("+00+0+/++0+++/0+++++/00+0++");
        check.due("arc of the tree", x.arc(0, 0, 0) != NONE, true);
        check.due("arc of no cotree", x.arc(1, 0, 0), NONE);
    }

    // ---- 21: way

    static void promise21WayFromFirstToLast() {
        UnimodularTables x = Check.of("+/+/+/+/+/+");
        int[] seen = new int[6];
        for (int i = 0; i < 6; i++) {
            int arc = x.way(0, 0, i);
            check.due("an arc", arc >= 0 && arc < 6, true);
            seen[arc]++;
            if (i > 0) {
                check.due("it goes on where the one ahead ends", x.arc(0, arc, 0), x.arc(0, x.way(0, 0, i - 1), 1));
            }
        }
        for (int arc = 0; arc < 6; arc++) {
            check.due("each once", seen[arc], 1);
        }
        check.due("one more", x.way(0, 0, 6), NONE);
        check.due("of the cotree: a row of one", x.way(1, 5, 0), 0);
        check.due("of the cotree: one more", x.way(1, 5, 1), NONE);
    }

    static void promise21WayThatIsNotThere() {
        String text = "+0+/0++";
        for (int far : FAR) {
            check.refused("way(" + far + ", 0, 0)", of(text), x -> x.way(far, 0, 0), NONE);
            check.refused("way(0, " + far + ", 0)", of(text), x -> x.way(0, far, 0), NONE);
            check.refused("way(1, " + far + ", 0)", of(text), x -> x.way(1, far, 0), NONE);
            check.refused("way(0, 2, " + far + ")", of(text), x -> x.way(0, 2, far), NONE);
        }
        check.refused("side 2", of(text), x -> x.way(2, 0, 0), NONE);
        check.refused("one column more", of(text), x -> x.way(0, 3, 0), NONE);
        check.refused("one row more", of(text), x -> x.way(1, 2, 0), NONE);
        check.refused("one arc more", of(text), x -> x.way(0, 2, 2), NONE);
        check.refused("one arc more than it has, not than the tree", of(text), x -> x.way(0, 0, 1), NONE);
        check.refused("a column of noughts", of("0+/0+"), x -> x.way(0, 0, 0), NONE);
        check.due("the last column's last arc", Check.of(text).way(0, 2, 1), 0);
        check.due("the last row's last arc", Check.of(text).way(1, 1, 1), 1);
    }

    static void promise21WayWithoutATree() {
        for (int side = 0; side <= 1; side++) {
            int asked = side;
            check.refused("way of no tree", of("++/-+"), x -> x.way(asked, 0, 0), NONE);
            for (Supplier<UnimodularTables> state : NO_TABLE) {
                check.refused("way of no table", state, x -> x.way(asked, 0, 0), NONE);
            }
        }
    }

    static void promise21WayAgainstTheArcs() {
        UnimodularTables x = Check.of("-+/-+");
        // The arcs of +/+ are 0 to 1 and 2 to 0; for -/- the tree is the same, gone the other way.
        check.due("along, the first", x.way(0, 1, 0), 1);
        check.due("along, the second", x.way(0, 1, 1), 0);
        check.due("against, the first", x.way(0, 0, 0), 0);
        check.due("against, the second", x.way(0, 0, 1), 1);
    }
}
