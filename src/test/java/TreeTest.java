import java.util.ArrayList;
import java.util.List;
import java.util.Random;

/** Promises 19 to 21: network, arc, way. */
public final class TreeTest {
    private static final int LEAST = Integer.MIN_VALUE;
    private static final int GREATEST = Integer.MAX_VALUE;
    private static final Check check = new Check();

    public static void main(String[] args) {
        byHand();
        wrongOnes();
        noNetworks();
        behindActs();
        asSearchedPlainly();
        check.finish();
    }

    private static void treeIs(String text, int side, int[][] arcs) {
        UnimodularTables x = Check.of(text);
        check.due("network(" + side + ") of " + text, x.network(side), 1);
        for (int arc = 0; arc < arcs.length; arc++) {
            check.due("arc(" + side + ", " + arc + ", 0) of " + text, x.arc(side, arc, 0), arcs[arc][0]);
            check.due("arc(" + side + ", " + arc + ", 1) of " + text, x.arc(side, arc, 1), arcs[arc][1]);
        }
        check.due("one arc more", x.arc(side, arcs.length, 0), -1);
    }

    private static void wayIs(String text, int side, int column, int... arcs) {
        UnimodularTables x = Check.of(text);
        for (int i = 0; i <= arcs.length; i++) {
            int want = i < arcs.length ? arcs[i] : -1;
            check.due("way(" + side + ", " + column + ", " + i + ") of " + text, x.way(side, column, i), want);
        }
    }

    private static void byHand() {
        treeIs("0", 0, new int[][] {{0, 1}});
        treeIs("-", 0, new int[][] {{0, 1}});
        treeIs("0/0/0", 0, new int[][] {{0, 1}, {0, 2}, {0, 3}});
        treeIs("+/+", 0, new int[][] {{0, 1}, {2, 0}});
        treeIs("+/-", 0, new int[][] {{0, 1}, {0, 2}});
        treeIs("+0+/+++/0++", 0, new int[][] {{0, 1}, {2, 0}, {3, 2}});
        // The third arc has to part node 0 between the two that meet there.
        treeIs("++0/+0+/+++", 0, new int[][] {{3, 1}, {2, 0}, {0, 3}});
        wayIs("++0/+0+/+++", 0, 0, 1, 2, 0);
        wayIs("+/+", 0, 0, 1, 0);
        wayIs("+/-", 0, 0, 1, 0);
        wayIs("-/+", 0, 0, 0, 1);
        wayIs("+0+/0++", 0, 2, 1, 0);
        wayIs("+0+/0++", 0, 1, 1);
        wayIs("00/0+", 0, 0);
        treeIs("+0+/0++", 1, new int[][] {{0, 1}, {0, 2}, {3, 0}});
        wayIs("+0+/0++", 1, 0, 2, 0);
        wayIs("+0+/0++", 1, 1, 2, 1);
    }

    private static void wrongOnes() {
        UnimodularTables none = new UnimodularTables();
        for (int side = 0; side < 2; side++) {
            check.due("network of no table", none.network(side), -1);
            check.due("arc of no table", none.arc(side, 0, 0), -1);
            check.due("way of no table", none.way(side, 0, 0), -1);
        }
        UnimodularTables x = Check.of("+0+/0++");
        int[] wrong = {2, -1, LEAST, GREATEST};
        for (int w : wrong) {
            check.due("network(" + w + ")", x.network(w), -1);
            check.due("arc of no such side", x.arc(w, 0, 0), -1);
            check.due("way of no such side", x.way(w, 0, 0), -1);
            check.due("no such arc", x.arc(0, w, 0), -1);
            check.due("no such what", x.arc(0, 0, w), -1);
            check.due("no such place", x.way(0, 2, w), -1);
        }
        check.due("no such arc", x.arc(1, 3, 0), -1);
        check.due("arc of a column", x.arc(1, 2, 0), 3);
        int[] wrongColumns = {3, -1, LEAST, GREATEST};
        for (int w : wrongColumns) {
            check.due("no such column", x.way(0, w, 0), -1);
        }
        check.due("no such row", x.way(1, 2, 0), -1);
        check.due("a column of the cotree is a row", x.way(1, 1, 0), 2);
    }

    private static void noNetworks() {
        String[] texts = {"++/-+", "++0/0++/+0+", "+-00-/-+-00/0-+-0/00-+-/-00-+", "+++++/+++00/+0++0/+00++/++00+"};
        for (String text : texts) {
            UnimodularTables x = Check.of(text);
            for (int side = 0; side < 2; side++) {
                check.due("network(" + side + ") of " + text, x.network(side), 0);
                check.due("arc without a tree", x.arc(side, 0, 0), -1);
                check.due("way without a tree", x.way(side, 0, 0), -1);
            }
        }
        // Five nodes, each joined to each: a tree of four arcs in a row, and the ways 01, 12, 23, 012, 123, 0123.
        UnimodularTables five = Check.of("+00+0+/++0+++/0+++++/00+0++");
        check.due("network of the five nodes", five.network(0), 1);
        check.due("cotree of the five nodes", five.network(1), 0);
        five.deal(5, 0, 0);
        check.due("network, transposed", five.network(0), 0);
        check.due("cotree, transposed", five.network(1), 1);
    }

    private static void behindActs() {
        UnimodularTables x = Check.of("+/+");
        check.due("arc", x.arc(0, 1, 0), 2);
        x.deal(0, 1, 0);
        check.due("arc behind an act", x.arc(0, 1, 0), 0);
        x.undo();
        check.due("arc behind undo", x.arc(0, 1, 0), 2);
        x.deal(5, 0, 0);
        check.due("arc of the cotree", x.arc(1, 1, 0), 2);
        Check.table(x, "++/-+");
        check.due("network behind a text", x.network(0), 0);
    }

    /** Compares with the search that leaves nothing out. */
    private static void asSearchedPlainly() {
        Random random = new Random(7);
        for (int i = 0; i < 1500; i++) {
            int arcs = i % 10 == 0 ? 6 : 1 + random.nextInt(5);
            int columns = 1 + random.nextInt(6);
            int[][] t = i % 3 == 0 && arcs < 6 ? anyTable(random, arcs, columns) : networkTable(random, arcs, columns);
            String text = write(t);
            UnimodularTables x = Check.of(text);
            List<int[]> tree = PlainModel.treeOf(t, new ArrayList<>());
            check.due("network of " + text, x.network(0), tree == null ? 0 : 1);
            for (int arc = 0; arc < arcs; arc++) {
                for (int what = 0; what < 2; what++) {
                    check.due("arc of " + text, x.arc(0, arc, what), tree == null ? -1 : tree.get(arc)[what]);
                }
            }
        }
    }

    private static int[][] anyTable(Random random, int rows, int columns) {
        int[][] t = new int[rows][columns];
        for (int i = 0; i < rows * columns; i++) {
            t[i / columns][i % columns] = random.nextInt(2) * (random.nextInt(3) - 1);
        }
        return t;
    }

    /** The ways between random nodes of a random tree. */
    private static int[][] networkTable(Random random, int arcs, int columns) {
        int[] parents = new int[arcs + 1];
        int[] signs = new int[arcs + 1];
        for (int node = 1; node <= arcs; node++) {
            parents[node] = random.nextInt(node);
            signs[node] = random.nextInt(2) * 2 - 1;
        }
        int[][] t = new int[arcs][columns];
        for (int c = 0; c < columns; c++) {
            for (int sign = -1; sign <= 1; sign += 2) {
                for (int node = random.nextInt(arcs + 1); node > 0; node = parents[node]) {
                    t[node - 1][c] += sign * signs[node];
                }
            }
        }
        return t;
    }

    private static String write(int[][] t) {
        StringBuilder text = new StringBuilder();
        for (int[] row : t) {
            text.append(text.length() == 0 ? "" : "/");
            for (int e : row) {
                text.append("-0+".charAt(e + 1));
            }
        }
        return text.toString();
    }
}
