import java.util.ArrayList;
import java.util.Arrays;
import java.util.List;
import java.util.regex.Matcher;
import java.util.regex.Pattern;

/**
 * The document once more, word by word and slowly, for comparison with the class. It shares no code with it and
 * finds its answers by other means where there are any (all permutations, all ways, all negations).
 */
final class PlainModel {
    static final int NONE = -1;
    static final int HIDDEN = -1000000;

    private String tape = "";
    private int[][] table;
    private final List<int[][]> past = new ArrayList<>();
    private List<int[][]> kept = new ArrayList<>();
    private final List<List<int[]>> scripts = new ArrayList<>();
    private int[][] imageTable;
    private List<int[][]> imageKept;
    private final int[] status = new int[4];

    // ---- the tape

    int feed(int... words) {
        StringBuilder more = new StringBuilder();
        for (int word : words) {
            for (int i = 3; i >= 0; i--) {
                char c = (char) ((word >> (8 * i)) & 255);
                if (c != 0) {
                    more.append(c);
                }
            }
        }
        if (tape.length() + more.length() > 240) {
            return NONE;
        }
        tape += more;
        return tape.length();
    }

    boolean end(int n) {
        if (n < 0 || n > tape.length()) {
            return false;
        }
        tape = tape.substring(0, n);
        return true;
    }

    private static final List<Pattern> TABLES = new ArrayList<>();
    private static final List<Pattern> SCRIPTS = new ArrayList<>();

    static {
        for (int width = 1; width <= 6; width++) {
            String row = " *" + "[-+0] *".repeat(width);
            TABLES.add(Pattern.compile(row + ("(?:/" + row).repeat(5) + ")?".repeat(5)));
        }
        String step = " *(?:[rc] *[0-9]|[xyp] *[0-9] *[0-9]|t|e *[0-9] *[0-9] *[-+0]) *";
        SCRIPTS.add(Pattern.compile(step + "(?:;" + step + "){0,11}"));
    }

    private static boolean matches(List<Pattern> grammar, String text) {
        return grammar.stream().anyMatch(p -> p.matcher(text).matches());
    }

    private static boolean canGoOn(List<Pattern> grammar, String text) {
        for (Pattern pattern : grammar) {
            Matcher matcher = pattern.matcher(text);
            if (matcher.matches() || matcher.hitEnd()) {
                return true;
            }
        }
        return false;
    }

    int fault(int sort) {
        if (sort != 0 && sort != 1) {
            return -2;
        }
        List<Pattern> grammar = sort == 0 ? TABLES : SCRIPTS;
        for (int i = 0; i < tape.length(); i++) {
            if (!canGoOn(grammar, tape.substring(0, i + 1))) {
                return i;
            }
        }
        return matches(grammar, tape) ? NONE : tape.length();
    }

    int text(int sort) {
        if (fault(sort) != NONE || sort == 1 && scripts.size() == 4) {
            return NONE;
        }
        String bare = tape.replace(" ", "");
        tape = "";
        if (sort == 0) {
            table = parse(bare);
            past.clear();
            return table.length;
        }
        List<int[]> steps = new ArrayList<>();
        for (String step : bare.split(";")) {
            int[] parts = {"rcxypte".indexOf(step.charAt(0)), HIDDEN, HIDDEN, HIDDEN};
            for (int i = 1; i < step.length(); i++) {
                parts[i] = i == 3 ? "-0+".indexOf(step.charAt(i)) - 1 : step.charAt(i) - '0';
            }
            steps.add(parts);
        }
        scripts.add(steps);
        return scripts.size() - 1;
    }

    static int[][] parse(String text) {
        String[] rows = text.split("/");
        int[][] result = new int[rows.length][rows[0].length()];
        for (int i = 0; i < rows.length; i++) {
            for (int j = 0; j < rows[i].length(); j++) {
                result[i][j] = "-0+".indexOf(rows[i].charAt(j)) - 1;
            }
        }
        return result;
    }

    // ---- acts

    private static boolean has(int[][] t, int row, int column) {
        return t != null && row >= 0 && row < t.length && column >= 0 && column < t[0].length;
    }

    long entry(int row, int column) {
        return has(table, row, column) ? table[row][column] : Check.THROWN;
    }

    private static int[][] copy(int[][] t) {
        int[][] result = new int[t.length][];
        for (int i = 0; i < t.length; i++) {
            result[i] = t[i].clone();
        }
        return result;
    }

    private static int[][] transposed(int[][] t) {
        int[][] result = new int[t[0].length][t.length];
        for (int i = 0; i < t.length; i++) {
            for (int j = 0; j < t[0].length; j++) {
                result[j][i] = t[i][j];
            }
        }
        return result;
    }

    /** The table behind an act, or a table of one row of one number: the STATUS of its refusal, and 10. */
    private static int[][] after(int[][] t, char act, int a, int b, int v) {
        int[][] one = {{11}};
        int[][] two = {{12}};
        int[][] three = {{13}};
        if (act == 'c' || act == 'y' || act == 'D') {
            int[][] result = after(transposed(t), act == 'c' ? 'r' : act == 'y' ? 'x' : 'd', a, b, v);
            return result[0][0] > 10 ? result : transposed(result);
        }
        int[][] result = copy(t);
        boolean rowA = a >= 0 && a < t.length;
        boolean rowB = b >= 0 && b < t.length;
        switch (act) {
            case 'r':
                if (!rowA) {
                    return one;
                }
                result[a] = Arrays.stream(t[a]).map(e -> -e).toArray();
                return result;
            case 'x':
                if (!rowA || !rowB) {
                    return one;
                }
                result[a] = t[b].clone();
                result[b] = t[a].clone();
                return a == b ? two : result;
            case 'd':
                if (!rowA) {
                    return one;
                }
                if (t.length == 1) {
                    return three;
                }
                List<int[]> rows = new ArrayList<>(Arrays.asList(result));
                rows.remove(a);
                return rows.toArray(new int[0][]);
            case 't':
                return transposed(t);
            case 'e':
                if (!has(t, a, b) || v < -1 || v > 1) {
                    return one;
                }
                result[a][b] = v;
                return t[a][b] == v ? two : result;
            default:
                return turned(t, a, b);
        }
    }

    private static int[][] turned(int[][] t, int row, int column) {
        if (!has(t, row, column)) {
            return new int[][] {{11}};
        }
        int e = t[row][column];
        if (e == 0) {
            return new int[][] {{12}};
        }
        int[][] result = copy(t);
        for (int i = 0; i < t.length; i++) {
            for (int j = 0; j < t[0].length; j++) {
                if (i == row && j == column) {
                    result[i][j] = -e;
                } else if (i == row || j == column) {
                    result[i][j] = t[i][j] * e;
                } else {
                    result[i][j] = t[i][j] - e * t[i][column] * t[row][j];
                }
                if (Math.abs(result[i][j]) > 1) {
                    return new int[][] {{13}};
                }
            }
        }
        return result;
    }

    /** -1: it was done; else under which STATUS it is refused. */
    private int act(int[][] result) {
        if (result[0][0] > 10) {
            return result[0][0] - 10;
        }
        past.add(table);
        if (past.size() > 40) {
            past.remove(0);
        }
        table = result;
        return -1;
    }

    private int refuse(int which, int answer) {
        status[which]++;
        return answer;
    }

    int change(int row, int column, int v) {
        if (table == null) {
            return refuse(0, HIDDEN);
        }
        int was = has(table, row, column) ? table[row][column] : HIDDEN;
        int refusal = act(after(table, 'e', row, column, v));
        return refusal < 0 ? was : refuse(refusal, HIDDEN);
    }

    int deal(int kind, int a, int b) {
        if (table == null) {
            return refuse(0, NONE);
        }
        if (kind < 0 || kind > 7) {
            return refuse(1, NONE);
        }
        int refusal = act(after(table, "rcxyptdD".charAt(kind), a, b, 0));
        return refusal < 0 ? past.size() : refuse(refusal, NONE);
    }

    int keep() {
        if (table == null || kept.size() == 4) {
            return NONE;
        }
        kept.add(copy(table));
        return kept.size() - 1;
    }

    private boolean isKept(int number) {
        return number >= 0 && number < kept.size();
    }

    int kept(int number, int row, int column) {
        return isKept(number) && has(kept.get(number), row, column) ? kept.get(number)[row][column] : HIDDEN;
    }

    int join(int one, int other, int kind) {
        if (!isKept(one) || !isKept(other)) {
            return refuse(0, NONE);
        }
        if (kind != 0 && kind != 1) {
            return refuse(1, NONE);
        }
        int[][] f = kept.get(one);
        int[][] s = kept.get(other);
        int less = kind;
        int rows = f.length + s.length - less;
        int columns = f[0].length + s[0].length - less;
        if (kind == 1 && (f[0].length < 2 || s.length < 2) || rows > 6 || columns > 6) {
            return refuse(3, NONE);
        }
        int[][] result = new int[rows][columns];
        for (int i = 0; i < f.length; i++) {
            for (int j = 0; j < f[0].length - less; j++) {
                result[i][j] = f[i][j];
            }
        }
        for (int i = less; i < s.length; i++) {
            for (int j = 0; j < s[0].length; j++) {
                result[f.length - less + i][f[0].length - less + j] = s[i][j];
            }
        }
        for (int i = 0; i < f.length && kind == 1; i++) {
            for (int j = 0; j < s[0].length; j++) {
                result[i][f[0].length - 1 + j] = f[i][f[0].length - 1] * s[0][j];
            }
        }
        act(result);
        return rows;
    }

    int undo() {
        if (past.isEmpty()) {
            return NONE;
        }
        table = past.remove(past.size() - 1);
        return past.size();
    }

    // ---- squares

    private static int[] members(int bits) {
        int[] result = new int[Integer.bitCount(bits)];
        int n = 0;
        for (int i = 0; i < 32; i++) {
            if ((bits >> i & 1) == 1) {
                result[n++] = i;
            }
        }
        return result;
    }

    /** By all permutations. */
    private static int det(int[][] t, int rows, int columns) {
        return permuted(t, members(rows), members(columns), 0);
    }

    private static int permuted(int[][] t, int[] rows, int[] columns, int from) {
        if (from == rows.length) {
            return 1;
        }
        int sum = 0;
        for (int i = from; i < columns.length; i++) {
            int e = t[rows[from]][columns[i]];
            if (e != 0) {
                int[] swapped = columns.clone();
                swapped[from] = columns[i];
                swapped[i] = columns[from];
                sum += (i == from ? 1 : -1) * e * permuted(t, rows, swapped, from + 1);
            }
        }
        return sum;
    }

    /** Rows, columns, determinant of each square, those with fewer rows first. */
    private static List<int[]> allSquares(int[][] t) {
        List<int[]> result = new ArrayList<>();
        for (int k = 1; k <= 6; k++) {
            for (int r = 1; r < 1 << t.length; r++) {
                for (int c = 1; c < 1 << t[0].length; c++) {
                    if (Integer.bitCount(r) == k && Integer.bitCount(c) == k) {
                        result.add(new int[] {r, c, det(t, r, c)});
                    }
                }
            }
        }
        return result;
    }

    private static int[] witness(int[][] t) {
        for (int[] square : allSquares(t)) {
            if (Math.abs(square[2]) > 1) {
                return square;
            }
        }
        return null;
    }

    private static boolean isTotal(int[][] t) {
        return witness(t) == null;
    }

    int det(int rows, int columns) {
        if (table == null || rows <= 0 || columns <= 0 || rows >= 1 << table.length || columns >= 1 << table[0].length
                || Integer.bitCount(rows) != Integer.bitCount(columns)) {
            return HIDDEN;
        }
        return det(table, rows, columns);
    }

    int squares(int k, int what) {
        if (table == null || k < 1 || k > 6 || what < 0 || what > 2) {
            return NONE;
        }
        return (int) allSquares(table).stream().filter(s -> Integer.bitCount(s[0]) == k)
                .filter(s -> Math.min(2, Math.abs(s[2])) == what).count();
    }

    int total() {
        return table == null ? NONE : isTotal(table) ? 1 : 0;
    }

    int witness(int what) {
        int[] found = table == null ? null : witness(table);
        if (found == null || what < 0 || what > 3) {
            return HIDDEN;
        }
        return what == 0 ? Integer.bitCount(found[0]) : found[what - 1];
    }

    int halves(int rows) {
        if (table == null || rows < 0 || rows >= 1 << table.length) {
            return NONE;
        }
        for (int part = 0; part <= rows; part++) {
            boolean fine = (part | rows) == rows;
            for (int c = 0; c < table[0].length; c++) {
                int sum = 0;
                for (int r : members(part)) {
                    sum += r < table.length ? table[r][c] : 0;
                }
                for (int r : members(rows & ~part)) {
                    sum -= table[r][c];
                }
                fine &= Math.abs(sum) <= 1;
            }
            if (fine) {
                return part;
            }
        }
        return NONE;
    }

    int unhalved() {
        for (int rows = 1; table != null && rows < 1 << table.length; rows++) {
            if (halves(rows) == NONE) {
                return rows;
            }
        }
        return NONE;
    }

    // ---- trees

    /** Arcs as {from, to}, or null. No possibility is left out. */
    static List<int[]> treeOf(int[][] t, List<int[]> arcs) {
        int n = arcs.size();
        if (n == t.length) {
            return arcs;
        }
        for (int node = 0; node <= n; node++) {
            int ending = 0;
            for (int i = 0; i < n; i++) {
                ending |= arcs.get(i)[0] == node || arcs.get(i)[1] == node ? 1 << i : 0;
            }
            for (int set = 0; set < 1 << n; set++) {
                for (int direction = 0; (set & ~ending) == 0 && direction < 2; direction++) {
                    List<int[]> more = new ArrayList<>();
                    for (int i = 0; i < n; i++) {
                        int[] arc = arcs.get(i).clone();
                        if ((set >> i & 1) == 1) {
                            arc[arc[0] == node ? 0 : 1] = n + 1;
                        }
                        more.add(arc);
                    }
                    more.add(direction == 0 ? new int[] {node, n + 1} : new int[] {n + 1, node});
                    List<int[]> found = allWays(t, more) ? treeOf(t, more) : null;
                    if (found != null) {
                        return found;
                    }
                }
            }
        }
        return null;
    }

    private static boolean allWays(int[][] t, List<int[]> arcs) {
        for (int c = 0; c < t[0].length; c++) {
            if (wayOf(t, arcs, c) == null) {
                return false;
            }
        }
        return true;
    }

    /** The arcs of a column in the order gone, or null. */
    private static List<Integer> wayOf(int[][] t, List<int[]> arcs, int column) {
        List<Integer> left = new ArrayList<>();
        for (int i = 0; i < arcs.size(); i++) {
            if (t[i][column] != 0) {
                left.add(i);
            }
        }
        for (Integer first : left) {
            List<Integer> way = goOn(t, arcs, column, left, first);
            if (way != null) {
                return way;
            }
        }
        return left.isEmpty() ? left : null;
    }

    private static List<Integer> goOn(int[][] t, List<int[]> arcs, int column, List<Integer> all, Integer first) {
        List<Integer> way = new ArrayList<>(List.of(first));
        for (int i = 1; i < all.size(); i++) {
            int last = way.get(way.size() - 1);
            int node = arcs.get(last)[t[last][column] == 1 ? 1 : 0];
            for (Integer next : all) {
                if (!way.contains(next) && arcs.get(next)[t[next][column] == 1 ? 0 : 1] == node) {
                    way.add(next);
                    break;
                }
            }
            if (way.size() != i + 1) {
                return null;
            }
        }
        return way;
    }

    private int[][] sideOf(int side) {
        return side == 0 ? table : transposed(table);
    }

    private int[][] treeFor;
    private int treeSide = -1;
    private List<int[]> treeFound;

    private List<int[]> tree(int side) {
        if (table == null || side != 0 && side != 1) {
            return null;
        }
        if (treeFor != table || treeSide != side) {
            treeFor = table;
            treeSide = side;
            treeFound = treeOf(sideOf(side), new ArrayList<>());
        }
        return treeFound;
    }

    int network(int side) {
        if (table == null || side != 0 && side != 1) {
            return NONE;
        }
        return tree(side) == null ? 0 : 1;
    }

    int arc(int side, int arc, int what) {
        List<int[]> found = tree(side);
        if (found == null || arc < 0 || arc >= found.size() || what < 0 || what > 1) {
            return NONE;
        }
        return found.get(arc)[what];
    }

    int way(int side, int column, int i) {
        List<int[]> found = tree(side);
        if (found == null || column < 0 || column >= sideOf(side)[0].length) {
            return NONE;
        }
        List<Integer> way = wayOf(sideOf(side), found, column);
        return i >= 0 && i < way.size() ? way.get(i) : NONE;
    }

    // ---- signs

    /** The shortest way from a row to a column by told entries, columns being 6 and more; the first by its numbers. */
    private static List<Integer> bestWay(int[][] signs, int row, int column) {
        for (int length = 2; length <= 12; length += 2) {
            List<Integer> found = wayOfLength(signs, new ArrayList<>(List.of(row)), 6 + column, length);
            if (found != null) {
                return found;
            }
        }
        return null;
    }

    private static List<Integer> wayOfLength(int[][] signs, List<Integer> way, int target, int length) {
        int at = way.get(way.size() - 1);
        if (way.size() == length) {
            return at == target ? way : null;
        }
        int others = at < 6 ? signs[0].length : signs.length;
        for (int i = 0; i < others; i++) {
            int next = at < 6 ? 6 + i : i;
            int sign = at < 6 ? signs[at][i] : signs[i][at - 6];
            if (sign != 0 && !way.contains(next)) {
                List<Integer> longer = new ArrayList<>(way);
                longer.add(next);
                List<Integer> found = wayOfLength(signs, longer, target, length);
                if (found != null) {
                    return found;
                }
            }
        }
        return null;
    }

    private static int sumOf(int[][] signs, List<Integer> way) {
        int sum = 0;
        for (int i = 1; i < way.size(); i++) {
            int a = way.get(i - 1);
            int b = way.get(i);
            sum += signs[Math.min(a, b)][Math.max(a, b) - 6];
        }
        return sum;
    }

    static int[][] signed(int[][] t) {
        int[][] signs = new int[t.length][t[0].length];
        for (int i = 0; i < t.length; i++) {
            for (int j = 0; j < t[0].length; j++) {
                if (t[i][j] != 0) {
                    signs[i][j] = bestWay(signs, i, j) == null ? 1 : 0;
                }
            }
        }
        while (true) {
            List<Integer> best = null;
            for (int i = 0; i < t.length; i++) {
                for (int j = 0; j < t[0].length; j++) {
                    if (t[i][j] != 0 && signs[i][j] == 0) {
                        List<Integer> way = bestWay(signs, i, j);
                        best = best == null || way.size() < best.size() ? way : best;
                    }
                }
            }
            if (best == null) {
                return signs;
            }
            int sum = sumOf(signs, best);
            signs[best.get(0)][best.get(best.size() - 1) - 6] = (sum + 1) % 4 == 0 ? 1 : -1;
        }
    }

    int signed(int row, int column) {
        return has(table, row, column) ? signed(table)[row][column] : HIDDEN;
    }

    int regular() {
        return table == null ? NONE : isTotal(signed(table)) ? 1 : 0;
    }

    /** By all negations. */
    private static boolean scales(int[][] t, int[][] other) {
        if (t.length != other.length || t[0].length != other[0].length) {
            return false;
        }
        for (int r = 0; r < 1 << t.length; r++) {
            for (int c = 0; c < 1 << t[0].length; c++) {
                boolean same = true;
                for (int i = 0; i < t.length && same; i++) {
                    for (int j = 0; j < t[0].length && same; j++) {
                        int sign = ((r >> i) + (c >> j)) % 2 == 0 ? 1 : -1;
                        same = t[i][j] * sign == other[i][j];
                    }
                }
                if (same) {
                    return true;
                }
            }
        }
        return false;
    }

    int scaled(int number) {
        return table == null || !isKept(number) ? NONE : scales(table, kept.get(number)) ? 1 : 0;
    }

    private static List<int[]> orders(int n) {
        List<int[]> result = new ArrayList<>();
        if (n == 0) {
            result.add(new int[0]);
            return result;
        }
        for (int[] shorter : orders(n - 1)) {
            for (int at = 0; at < n; at++) {
                int[] order = new int[n];
                for (int i = 0; i < n; i++) {
                    order[i] = i < at ? shorter[i] : i == at ? n - 1 : shorter[i - 1];
                }
                result.add(order);
            }
        }
        return result;
    }

    private static boolean isAlike(int[][] t, String text) {
        int[][] other = parse(text);
        for (int[] rows : orders(5)) {
            for (int[] columns : orders(5)) {
                int[][] moved = new int[5][5];
                boolean noughts = true;
                for (int i = 0; i < 5 && noughts; i++) {
                    for (int j = 0; j < 5 && noughts; j++) {
                        moved[i][j] = t[rows[i]][columns[j]];
                        noughts = (moved[i][j] == 0) == (other[i][j] == 0);
                    }
                }
                if (noughts && scales(moved, other)) {
                    return true;
                }
            }
        }
        return false;
    }

    int special() {
        if (table == null) {
            return NONE;
        }
        if (table.length != 5 || table[0].length != 5) {
            return 0;
        }
        if (isAlike(table, "+-00-/-+-00/0-+-0/00-+-/-00-+")) {
            return 1;
        }
        return isAlike(table, "+++++/+++00/+0++0/+00++/++00+") ? 2 : 0;
    }

    // ---- graphs

    int block(int i, int what) {
        if (table == null) {
            return NONE;
        }
        int n = table.length;
        int m = table[0].length;
        boolean[][] joined = new boolean[n + m][n + m];
        for (int a = 0; a < n + m; a++) {
            joined[a][a] = true;
            for (int b = 0; a < n && b < m; b++) {
                joined[a][n + b] |= table[a][b] != 0;
                joined[n + b][a] |= table[a][b] != 0;
            }
        }
        for (int k = 0; k < n + m; k++) {
            for (int a = 0; a < n + m; a++) {
                for (int b = 0; b < n + m; b++) {
                    joined[a][b] |= joined[a][k] && joined[k][b];
                }
            }
        }
        List<int[]> blocks = new ArrayList<>();
        boolean[] seen = new boolean[n + m];
        for (int a = 0; a < n + m; a++) {
            if (!seen[a]) {
                int[] block = new int[2];
                for (int b = 0; b < n + m; b++) {
                    if (joined[a][b]) {
                        seen[b] = true;
                        block[b < n ? 0 : 1] |= 1 << (b < n ? b : b - n);
                    }
                }
                blocks.add(block);
            }
        }
        if (i == NONE) {
            return blocks.size();
        }
        return i < 0 || i >= blocks.size() || what < 0 || what > 1 ? NONE : blocks.get(i)[what];
    }

    int rank(int by) {
        if (table == null || by != 0 && by != 2 && by != 3) {
            return NONE;
        }
        return allSquares(table).stream().filter(s -> by == 0 ? s[2] != 0 : Math.floorMod(s[2], by) != 0)
                .mapToInt(s -> Integer.bitCount(s[0])).max().orElse(0);
    }

    int bases() {
        return table == null ? NONE : 1 + (int) allSquares(table).stream().filter(s -> s[2] != 0).count();
    }

    private boolean totalWith(int row, int column, int value) {
        int[][] other = copy(table);
        other[row][column] = value;
        return isTotal(other);
    }

    int mends() {
        if (table == null) {
            return NONE;
        }
        if (isTotal(table)) {
            return HIDDEN;
        }
        for (int i = 0; i < table.length; i++) {
            for (int j = 0; j < table[0].length; j++) {
                for (int v = -1; v <= 1; v++) {
                    if (v != table[i][j] && totalWith(i, j, v)) {
                        return 100 * i + 10 * j + v + 1;
                    }
                }
            }
        }
        return NONE;
    }

    int fragile() {
        if (table == null || !isTotal(table)) {
            return NONE;
        }
        int n = 0;
        for (int i = 0; i < table.length; i++) {
            for (int j = 0; j < table[0].length; j++) {
                n += table[i][j] != 0 && !totalWith(i, j, -table[i][j]) ? 1 : 0;
            }
        }
        return n;
    }

    int fills(int row, int column) {
        if (!has(table, row, column)) {
            return NONE;
        }
        return (totalWith(row, column, -1) ? 1 : 0) + (totalWith(row, column, 0) ? 2 : 0)
                + (totalWith(row, column, 1) ? 4 : 0);
    }

    int pack(int what) {
        if (table == null || what != 0 && what != 1) {
            return NONE;
        }
        int best = -1;
        int limit = 1 << (what == 0 ? table[0].length : table.length);
        for (int set = 0; set < limit; set++) {
            int size = Integer.bitCount(set);
            if (what == 0 && noTwoMeet(set) && (best < 0 || size > Integer.bitCount(best))) {
                best = set;
            }
            if (what == 1 && meetsAll(set) && (best < 0 || size < Integer.bitCount(best))) {
                best = set;
            }
        }
        return best;
    }

    private boolean noTwoMeet(int columns) {
        for (int a : members(columns)) {
            for (int b : members(columns)) {
                for (int[] row : table) {
                    if (a != b && row[a] != 0 && row[b] != 0) {
                        return false;
                    }
                }
            }
        }
        return true;
    }

    private boolean meetsAll(int rows) {
        for (int[] column : transposed(table)) {
            boolean nought = Arrays.stream(column).allMatch(e -> e == 0);
            boolean met = Arrays.stream(members(rows)).anyMatch(r -> column[r] != 0);
            if (!nought && !met) {
                return false;
            }
        }
        return true;
    }

    int adjoint(int row, int column) {
        if (!has(table, row, column) || table.length != table[0].length) {
            return HIDDEN;
        }
        int all = (1 << table.length) - 1;
        int d = det(table, all & ~(1 << column), all & ~(1 << row));
        return (row + column) % 2 == 1 ? -d : d;
    }

    int cycle() {
        for (int length = 4; table != null && length <= 12; length += 2) {
            for (int i = 0; i < table.length; i++) {
                for (int j = 0; j < table[0].length; j++) {
                    if (table[i][j] != 0 && closes(new ArrayList<>(List.of(i)), 6 + j, length)) {
                        return length;
                    }
                }
            }
        }
        return NONE;
    }

    private boolean closes(List<Integer> way, int target, int length) {
        return wayOfLength(table, way, target, length) != null;
    }

    // ---- scripts, draws, images

    int step(int script, int i, int what) {
        if (script < 0 || script >= scripts.size() || i < 0 || i >= scripts.get(script).size() || what < 0 || what > 3) {
            return HIDDEN;
        }
        return scripts.get(script).get(i)[what];
    }

    int run(int script, int what) {
        if (table == null || script < 0 || script >= scripts.size() || what != 0 && what != 1) {
            return HIDDEN;
        }
        int[][] t = table;
        int behind = 0;
        for (int[] s : scripts.get(script)) {
            int[][] next = after(t, "rcxypte".charAt(s[0]), s[1], s[2], s[3]);
            if (next[0][0] > 10) {
                return what == 0 ? behind : isTotal(t) ? 1 : 0;
            }
            t = next;
            behind++;
        }
        return what == 0 ? NONE : isTotal(t) ? 1 : 0;
    }

    int perform(int script) {
        if (table == null || script < 0 || script >= scripts.size()) {
            return NONE;
        }
        int can = run(script, 0);
        int steps = can == NONE ? scripts.get(script).size() : can;
        for (int[] s : scripts.get(script).subList(0, steps)) {
            act(after(table, "rcxypte".charAt(s[0]), s[1], s[2], s[3]));
        }
        return steps;
    }

    private long x;

    private int draw(int j) {
        x = x * 6364136223846793005L + 1442695040888963407L;
        return (int) ((x >>> 33) % j);
    }

    int draws(int n, long seed) {
        if (table == null || n < 1 || n > 30) {
            return NONE;
        }
        x = seed;
        int acts = 0;
        int rows = table.length;
        int columns = table[0].length;
        for (int i = 0; i < n; i++) {
            int kind = draw(6);
            int a = draw(kind == 1 || kind == 3 ? columns : rows);
            int b = kind < 2 ? 0 : draw(kind == 2 ? rows : columns);
            int v = kind == 5 ? draw(3) - 1 : 0;
            acts += act(after(table, "rcxype".charAt(kind), a, b, v)) < 0 ? 1 : 0;
        }
        return acts;
    }

    int status(int what) {
        return what >= 0 && what < 4 ? status[what] : NONE;
    }

    int image() {
        if (table == null) {
            return NONE;
        }
        imageTable = copy(table);
        imageKept = new ArrayList<>(kept);
        return kept.size();
    }

    int back() {
        if (imageTable == null) {
            return NONE;
        }
        table = copy(imageTable);
        kept = new ArrayList<>(imageKept);
        past.clear();
        return kept.size();
    }

    int count(int what) {
        switch (what) {
            case 0: return table == null ? 0 : table.length;
            case 1: return table == null ? 0 : table[0].length;
            case 2: return kept.size();
            case 3: return scripts.size();
            case 4: return tape.length();
            case 5: return past.size();
            case 6: return table == null ? 0 : (int) Arrays.stream(table).flatMapToInt(Arrays::stream).filter(e -> e != 0).count();
            default: return HIDDEN;
        }
    }
}
