import java.util.NoSuchElementException;

/**
 * Tables of noughts and ones with signs: whether all their squares have determinants within -1 .. 1,
 * and what follows from it. The document (DOC.md) tells, by promises, what each call answers.
 */
public final class UnimodularTables {
    public static final int NONE = -1;
    public static final int HIDDEN = -1000000;

    private static final int MOST = 6;
    private static final int CELLS = MOST * MOST;
    private static final int SETS = 1 << MOST;
    private static final int MOST_BYTES = 240;
    private static final int MOST_STEPS = 12;
    private static final int MOST_SCRIPTS = 4;
    private static final int MOST_KEPT = 4;
    private static final int MOST_UNDONE = 40;
    private static final int MOST_DRAWS = 30;

    // What an act answers: that it was done, or else under which number of STATUS it was refused.
    private static final int DONE = -1;
    private static final int NOTHING_THERE = 0;
    private static final int NO_SUCH = 1;
    private static final int IS_SO = 2;
    private static final int CANNOT = 3;
    private static final int STATUSES = 4;

    // The kinds of acts: up to SET they are numbered as the steps of a script are.
    private static final int NEGATE_ROW = 0;
    private static final int NEGATE_COLUMN = 1;
    private static final int CHANGE_ROWS = 2;
    private static final int CHANGE_COLUMNS = 3;
    private static final int TURN = 4;
    private static final int TRANSPOSE = 5;
    private static final int SET = 6;
    private static final int DROP_ROW = 7;
    private static final int DROP_COLUMN = 8;

    private static final String FIRST_SPECIAL = "+-00-/-+-00/0-+-0/00-+-/-00-+";
    private static final String SECOND_SPECIAL = "+++++/+++00/+0++0/+00++/++00+";

    private final Tape tape = new Tape();
    private final Table table = new Table();
    private final Table before = new Table();
    private final Table draft = new Table();
    private final Past past = new Past();
    private final Table[] keptTables = new Table[MOST_KEPT];
    private int keptCount;
    private final Script[] scripts = new Script[MOST_SCRIPTS + 1];
    private int scriptCount;
    private final Table pictured = new Table();
    private int picturedKept;
    private final int[] refusals = new int[STATUSES];
    private final Minors minors = new Minors();
    private final Tree tree = new Tree();
    private final Tree cotree = new Tree();
    private final Signing signing = new Signing();
    private final Shape shape = new Shape();
    private final Pattern pattern = new Pattern();
    private final Dice dice = new Dice();

    public UnimodularTables() {
        for (int i = 0; i < MOST_KEPT; i++) {
            keptTables[i] = new Table();
        }
        // One script more than can be kept: room to read the tape into when all four are there.
        for (int i = 0; i <= MOST_SCRIPTS; i++) {
            scripts[i] = new Script();
        }
    }

    public int feed(int a, int b, int c, int d, int e) {
        int more = Tape.bytesIn(a) + Tape.bytesIn(b) + Tape.bytesIn(c) + Tape.bytesIn(d) + Tape.bytesIn(e);
        if (tape.length + more > MOST_BYTES) {
            return NONE;
        }
        tape.append(a);
        tape.append(b);
        tape.append(c);
        tape.append(d);
        tape.append(e);
        return tape.length;
    }

    public boolean end(int n) {
        if (n < 0 || n > tape.length) {
            return false;
        }
        tape.length = n;
        return true;
    }

    public int fault(int sort) {
        if (sort == 0) {
            return draft.read(tape);
        }
        if (sort == 1) {
            return scripts[scriptCount].read(tape);
        }
        return -2;
    }

    public int text(int sort) {
        if (sort == 0) {
            return tableFromTape();
        }
        if (sort == 1) {
            return scriptFromTape();
        }
        return NONE;
    }

    public int entry(int row, int column) throws NoSuchElementException {
        if (!table.has(row, column)) {
            throw new NoSuchElementException();
        }
        return table.at(row, column);
    }

    public int change(int row, int column, int v) {
        int was = table.at(row, column);
        return refused(attempt(SET, row, column, v)) ? HIDDEN : was;
    }

    public int deal(int kind, int a, int b) {
        return refused(attempt(actOfDeal(kind), a, b, 0)) ? NONE : past.size;
    }

    public int keep() {
        if (table.isNone() || keptCount >= MOST_KEPT) {
            return NONE;
        }
        keptTables[keptCount].copyFrom(table);
        keptCount++;
        return keptCount - 1;
    }

    public int kept(int kept, int row, int column) {
        if (!isKept(kept) || !keptTables[kept].has(row, column)) {
            return HIDDEN;
        }
        return keptTables[kept].at(row, column);
    }

    public int join(int one, int other, int kind) {
        return refused(attemptSum(one, other, kind)) ? NONE : table.rows;
    }

    public int undo() {
        if (past.size == 0) {
            return NONE;
        }
        past.takeBack(table);
        forget();
        return past.size;
    }

    public int det(int rows, int columns) {
        if (!table.hasRowSet(rows) || !table.hasColumnSet(columns)) {
            return HIDDEN;
        }
        if (rows == 0 || Integer.bitCount(rows) != Integer.bitCount(columns)) {
            return HIDDEN;
        }
        return knownMinors().of(rows, columns);
    }

    public int squares(int k, int what) {
        if (table.isNone() || k < 1 || k > MOST || what < 0 || what > 2) {
            return NONE;
        }
        return knownMinors().howMany(k, what);
    }

    public int total() {
        if (table.isNone()) {
            return NONE;
        }
        return knownMinors().allWithin() ? 1 : 0;
    }

    public int witness(int what) {
        if (table.isNone() || knownMinors().allWithin()) {
            return HIDDEN;
        }
        switch (what) {
            case 0: return Integer.bitCount(minors.beyondRows);
            case 1: return minors.beyondRows;
            case 2: return minors.beyondColumns;
            case 3: return minors.of(minors.beyondRows, minors.beyondColumns);
            default: return HIDDEN;
        }
    }

    public int halves(int rows) {
        return table.hasRowSet(rows) ? table.halved(rows) : NONE;
    }

    public int unhalved() {
        for (int rows = 0; rows < SETS && table.hasRowSet(rows); rows++) {
            if (table.halved(rows) == NONE) {
                return rows;
            }
        }
        return NONE;
    }

    public int network(int side) {
        if (!hasSide(side)) {
            return NONE;
        }
        return knownTree(side).found ? 1 : 0;
    }

    public int arc(int side, int arc, int what) {
        return hasSide(side) ? knownTree(side).endOf(arc, what) : NONE;
    }

    public int way(int side, int column, int i) {
        return hasSide(side) ? knownTree(side).arcOnWay(column, i) : NONE;
    }

    public int signed(int row, int column) {
        return table.has(row, column) ? knownSigns().at(row, column) : HIDDEN;
    }

    public int regular() {
        if (table.isNone()) {
            return NONE;
        }
        return isTotal(knownSigns()) ? 1 : 0;
    }

    public int scaled(int kept) {
        if (table.isNone() || !isKept(kept)) {
            return NONE;
        }
        return table.scalesTo(keptTables[kept]) ? 1 : 0;
    }

    public int special() {
        if (table.isNone()) {
            return NONE;
        }
        if (pattern.fits(table, FIRST_SPECIAL)) {
            return 1;
        }
        return pattern.fits(table, SECOND_SPECIAL) ? 2 : 0;
    }

    public int block(int i, int what) {
        if (table.isNone()) {
            return NONE;
        }
        shape.takeFrom(table);
        shape.findParts();
        return i == NONE ? shape.parts : shape.partOf(i, what);
    }

    public int rank(int by) {
        if (table.isNone() || (by != 0 && by != 2 && by != 3)) {
            return NONE;
        }
        return knownMinors().largestNotNought(by);
    }

    public int bases() {
        if (table.isNone()) {
            return NONE;
        }
        return knownMinors().howManyNotNought() + 1;
    }

    public int mends() {
        if (table.isNone()) {
            return NONE;
        }
        return knownMinors().allWithin() ? HIDDEN : firstMend();
    }

    public int fragile() {
        if (table.isNone() || !knownMinors().allWithin()) {
            return NONE;
        }
        int fragile = 0;
        for (int row = 0; row < table.rows; row++) {
            for (int column = 0; column < table.columns; column++) {
                int value = table.at(row, column);
                if (value != 0 && !minors.allWithinIf(table, row, column, -value)) {
                    fragile++;
                }
            }
        }
        return fragile;
    }

    public int fills(int row, int column) {
        if (!table.has(row, column)) {
            return NONE;
        }
        int values = 0;
        for (int value = -1; value <= 1; value++) {
            if (knownMinors().allWithinIf(table, row, column, value)) {
                values |= 1 << (value + 1);
            }
        }
        return values;
    }

    public int pack(int what) {
        if (table.isNone() || what < 0 || what > 1) {
            return NONE;
        }
        shape.takeFrom(table);
        return what == 0 ? shape.mostApart() : shape.fewestMeeting();
    }

    public int adjoint(int row, int column) {
        if (!table.has(row, column) || table.rows != table.columns) {
            return HIDDEN;
        }
        int all = (1 << table.rows) - 1;
        int minor = knownMinors().of(all ^ (1 << column), all ^ (1 << row));
        return ((row + column) & 1) == 0 ? minor : -minor;
    }

    public int cycle() {
        if (table.isNone()) {
            return NONE;
        }
        shape.takeFrom(table);
        return shape.shortestRound();
    }

    public int step(int script, int i, int what) {
        return isScript(script) ? scripts[script].tell(i, what) : HIDDEN;
    }

    public int run(int script, int what) {
        if (table.isNone() || !isScript(script) || what < 0 || what > 1) {
            return HIDDEN;
        }
        Script steps = scripts[script];
        draft.copyFrom(table);
        int done = 0;
        while (done < steps.size && draft.act(steps.kinds[done], steps.firsts[done], steps.seconds[done],
                steps.values[done]) == DONE) {
            done++;
        }
        if (what == 1) {
            return isTotal(draft) ? 1 : 0;
        }
        return done == steps.size ? NONE : done;
    }

    public int perform(int script) {
        if (table.isNone() || !isScript(script)) {
            return NONE;
        }
        Script steps = scripts[script];
        int done = 0;
        while (done < steps.size && attempt(steps.kinds[done], steps.firsts[done], steps.seconds[done],
                steps.values[done]) == DONE) {
            done++;
        }
        return done;
    }

    public int draws(int n, long seed) {
        if (table.isNone() || n < 1 || n > MOST_DRAWS) {
            return NONE;
        }
        dice.x = seed;
        int acts = 0;
        for (int i = 0; i < n; i++) {
            if (attemptDraw() == DONE) {
                acts++;
            }
        }
        return acts;
    }

    public int status(int what) {
        return what >= 0 && what < STATUSES ? refusals[what] : NONE;
    }

    public int image() {
        if (table.isNone()) {
            return NONE;
        }
        pictured.copyFrom(table);
        picturedKept = keptCount;
        return keptCount;
    }

    public int back() {
        if (pictured.isNone()) {
            return NONE;
        }
        table.copyFrom(pictured);
        // Kept ones only come behind those that the image has, so their number tells which they are.
        keptCount = picturedKept;
        past.clear();
        forget();
        return keptCount;
    }

    public int count(int what) {
        switch (what) {
            case 0: return table.rows;
            case 1: return table.columns;
            case 2: return keptCount;
            case 3: return scriptCount;
            case 4: return tape.length;
            case 5: return past.size;
            case 6: return table.notNought();
            default: return HIDDEN;
        }
    }

    private int tableFromTape() {
        if (draft.read(tape) != NONE) {
            return NONE;
        }
        table.copyFrom(draft);
        tape.length = 0;
        past.clear();
        forget();
        return table.rows;
    }

    private int scriptFromTape() {
        if (scriptCount >= MOST_SCRIPTS || scripts[scriptCount].read(tape) != NONE) {
            return NONE;
        }
        tape.length = 0;
        scriptCount++;
        return scriptCount - 1;
    }

    private boolean hasSide(int side) {
        return !table.isNone() && (side == 0 || side == 1);
    }

    private boolean isKept(int number) {
        return number >= 0 && number < keptCount;
    }

    private boolean isScript(int number) {
        return number >= 0 && number < scriptCount;
    }

    /** Counts a refused act in STATUS. */
    private boolean refused(int answer) {
        if (answer < 0 || answer >= STATUSES) {
            return false;
        }
        refusals[answer]++;
        return true;
    }

    private static int actOfDeal(int kind) {
        if (kind >= NEGATE_ROW && kind <= TRANSPOSE) {
            return kind;
        }
        if (kind == 6) {
            return DROP_ROW;
        }
        return kind == 7 ? DROP_COLUMN : NONE;
    }

    private int attempt(int act, int a, int b, int value) {
        if (table.isNone()) {
            return NOTHING_THERE;
        }
        before.copyFrom(table);
        return settle(table.act(act, a, b, value));
    }

    private int attemptSum(int one, int other, int kind) {
        if (!isKept(one) || !isKept(other)) {
            return NOTHING_THERE;
        }
        if (kind != 0 && kind != 1) {
            return NO_SUCH;
        }
        before.copyFrom(table);
        Table first = keptTables[one];
        Table second = keptTables[other];
        return settle(kind == 0 ? table.becomeJoined(first, second) : table.becomeLinked(first, second));
    }

    private int attemptDraw() {
        int rows = table.rows;
        int columns = table.columns;
        switch (dice.draw(6)) {
            case 0: return attempt(NEGATE_ROW, dice.draw(rows), 0, 0);
            case 1: return attempt(NEGATE_COLUMN, dice.draw(columns), 0, 0);
            case 2: return attempt(CHANGE_ROWS, dice.draw(rows), dice.draw(rows), 0);
            case 3: return attempt(CHANGE_COLUMNS, dice.draw(columns), dice.draw(columns), 0);
            case 4: return attempt(TURN, dice.draw(rows), dice.draw(columns), 0);
            default: return attempt(SET, dice.draw(rows), dice.draw(columns), dice.draw(3) - 1);
        }
    }

    private int settle(int answer) {
        if (answer == DONE) {
            past.add(before);
            forget();
        }
        return answer;
    }

    /** What has been found about the table no longer holds. */
    private void forget() {
        minors.known = false;
        tree.known = false;
        cotree.known = false;
        signing.known = false;
    }

    private Minors knownMinors() {
        if (!minors.known) {
            minors.reckon(table);
            minors.known = true;
        }
        return minors;
    }

    private Tree knownTree(int side) {
        Tree asked = side == 0 ? tree : cotree;
        if (!asked.known) {
            // Ways of a tree make a total table, so the search can be spared for all others.
            asked.seek(table, side == 1, knownMinors().allWithin());
            asked.known = true;
        }
        return asked;
    }

    private Table knownSigns() {
        if (!signing.known) {
            signing.signAll(table);
            signing.known = true;
        }
        return signing.signs;
    }

    private boolean isTotal(Table other) {
        minors.reckon(other);
        minors.known = false;
        return minors.allWithin();
    }

    private int firstMend() {
        for (int row = 0; row < table.rows; row++) {
            for (int column = 0; column < table.columns; column++) {
                for (int value = -1; value <= 1; value++) {
                    // The value that it has can't mend, as the table is not total.
                    if (minors.allWithinIf(table, row, column, value)) {
                        return 100 * row + 10 * column + value + 1;
                    }
                }
            }
        }
        return NONE;
    }

    /** The value that a sign of a text tells; HIDDEN: it tells none. */
    private static int valueOfSign(int sign) {
        switch (sign) {
            case '+': return 1;
            case '-': return -1;
            case '0': return 0;
            default: return HIDDEN;
        }
    }

    private static boolean isBeyond(int det) {
        return det < -1 || det > 1;
    }

    private static boolean isIn(int set, int member) {
        return ((set >> member) & 1) != 0;
    }

    /** The bytes that have been fed. */
    private static final class Tape {
        private final int[] bytes = new int[MOST_BYTES];
        private int length;

        static int bytesIn(int word) {
            int found = 0;
            for (int shift = 24; shift >= 0; shift -= 8) {
                if (((word >>> shift) & 255) != 0) {
                    found++;
                }
            }
            return found;
        }

        void append(int word) {
            for (int shift = 24; shift >= 0; shift -= 8) {
                int next = (word >>> shift) & 255;
                if (next != 0 && length < MOST_BYTES) {
                    bytes[length] = next;
                    length++;
                }
            }
        }

        int at(int i) {
            return i >= 0 && i < length && i < MOST_BYTES ? bytes[i] : 0;
        }
    }

    /** A table and the acts on it; each act is done whole, or is refused and changes nothing. */
    private static final class Table {
        private int rows;
        private int columns;
        private final int[] cells = new int[CELLS];

        boolean isNone() {
            return rows == 0;
        }

        boolean has(int row, int column) {
            return row >= 0 && row < rows && column >= 0 && column < columns;
        }

        boolean hasRowSet(int set) {
            return rows > 0 && set >= 0 && set < 1 << rows;
        }

        boolean hasColumnSet(int set) {
            return columns > 0 && set >= 0 && set < 1 << columns;
        }

        int at(int row, int column) {
            if (row < 0 || row >= rows || column < 0 || column >= columns) {
                return 0;
            }
            return cells[row * MOST + column];
        }

        void put(int row, int column, int value) {
            if (row >= 0 && row < rows && column >= 0 && column < columns) {
                cells[row * MOST + column] = value;
            }
        }

        void copyFrom(Table other) {
            rows = other.rows;
            columns = other.columns;
            System.arraycopy(other.cells, 0, cells, 0, CELLS);
        }

        /** A table of noughts alone. */
        void clear(int newRows, int newColumns) {
            rows = newRows;
            columns = newColumns;
            for (int i = 0; i < CELLS; i++) {
                cells[i] = 0;
            }
        }

        int notNought() {
            int found = 0;
            for (int row = 0; row < rows; row++) {
                for (int column = 0; column < columns; column++) {
                    if (at(row, column) != 0) {
                        found++;
                    }
                }
            }
            return found;
        }

        /** Takes the tape for its text; answers the FAULT, behind which it is half read. */
        int read(Tape tape) {
            clear(MOST, MOST);
            int row = 0;
            int column = 0;
            int width = MOST;
            for (int i = 0; i < tape.length; i++) {
                int sign = tape.at(i);
                int value = valueOfSign(sign);
                if (value != HIDDEN) {
                    if (column == width) {
                        return i;
                    }
                    put(row, column, value);
                    column++;
                } else if (sign == '/') {
                    if (!isRowFull(row, column, width) || row == MOST - 1) {
                        return i;
                    }
                    width = column;
                    row++;
                    column = 0;
                } else if (sign != ' ') {
                    return i;
                }
            }
            if (!isRowFull(row, column, width)) {
                return tape.length;
            }
            rows = row + 1;
            columns = column;
            return NONE;
        }

        private static boolean isRowFull(int row, int column, int width) {
            return row == 0 ? column > 0 : column == width;
        }

        int act(int kind, int a, int b, int value) {
            switch (kind) {
                case NEGATE_ROW: return negateRow(a);
                case NEGATE_COLUMN: return onColumns(NEGATE_ROW, a, b);
                case CHANGE_ROWS: return changeRows(a, b);
                case CHANGE_COLUMNS: return onColumns(CHANGE_ROWS, a, b);
                case TURN: return turn(a, b);
                case TRANSPOSE: return transpose();
                case SET: return set(a, b, value);
                case DROP_ROW: return dropRow(a);
                case DROP_COLUMN: return onColumns(DROP_ROW, a, b);
                default: return NO_SUCH;
            }
        }

        /** An act on rows, done to columns. */
        private int onColumns(int kind, int a, int b) {
            transpose();
            int answer;
            if (kind == NEGATE_ROW) {
                answer = negateRow(a);
            } else if (kind == CHANGE_ROWS) {
                answer = changeRows(a, b);
            } else {
                answer = dropRow(a);
            }
            transpose();
            return answer;
        }

        private int negateRow(int row) {
            if (!has(row, 0)) {
                return NO_SUCH;
            }
            for (int column = 0; column < columns; column++) {
                put(row, column, -at(row, column));
            }
            return DONE;
        }

        private int changeRows(int a, int b) {
            if (!has(a, 0) || !has(b, 0)) {
                return NO_SUCH;
            }
            if (a == b) {
                return IS_SO;
            }
            for (int column = 0; column < columns; column++) {
                int value = at(a, column);
                put(a, column, at(b, column));
                put(b, column, value);
            }
            return DONE;
        }

        private int dropRow(int row) {
            if (!has(row, 0)) {
                return NO_SUCH;
            }
            if (rows < 2) {
                return CANNOT;
            }
            for (int below = row + 1; below < rows; below++) {
                for (int column = 0; column < columns; column++) {
                    put(below - 1, column, at(below, column));
                }
            }
            rows--;
            return DONE;
        }

        private int set(int row, int column, int value) {
            if (!has(row, column) || value < -1 || value > 1) {
                return NO_SUCH;
            }
            if (at(row, column) == value) {
                return IS_SO;
            }
            put(row, column, value);
            return DONE;
        }

        int transpose() {
            for (int row = 0; row < MOST; row++) {
                for (int column = 0; column < row; column++) {
                    int value = cells[row * MOST + column];
                    cells[row * MOST + column] = cells[column * MOST + row];
                    cells[column * MOST + row] = value;
                }
            }
            int count = rows;
            rows = columns;
            columns = count;
            return DONE;
        }

        private int turn(int row, int column) {
            if (!has(row, column)) {
                return NO_SUCH;
            }
            if (at(row, column) == 0) {
                return IS_SO;
            }
            if (!canTurn(row, column)) {
                return CANNOT;
            }
            int pivot = at(row, column);
            // Those in neither come first, as they need the pivot's row and column as they were.
            for (int i = 0; i < rows; i++) {
                for (int j = 0; j < columns; j++) {
                    if (i != row && j != column) {
                        put(i, j, at(i, j) - pivot * at(i, column) * at(row, j));
                    }
                }
            }
            for (int i = 0; i < rows; i++) {
                put(i, column, at(i, column) * (i == row ? 1 : pivot));
            }
            for (int j = 0; j < columns; j++) {
                put(row, j, at(row, j) * (j == column ? -1 : pivot));
            }
            return DONE;
        }

        private boolean canTurn(int row, int column) {
            int pivot = at(row, column);
            for (int i = 0; i < rows; i++) {
                for (int j = 0; j < columns; j++) {
                    if (i != row && j != column && isBeyond(at(i, j) - pivot * at(i, column) * at(row, j))) {
                        return false;
                    }
                }
            }
            return true;
        }

        int becomeJoined(Table first, Table second) {
            int newRows = first.rows + second.rows;
            int newColumns = first.columns + second.columns;
            if (newRows > MOST || newColumns > MOST) {
                return CANNOT;
            }
            clear(newRows, newColumns);
            for (int row = 0; row < newRows; row++) {
                for (int column = 0; column < newColumns; column++) {
                    boolean above = row < first.rows;
                    put(row, column, above ? first.at(row, column)
                            : second.at(row - first.rows, column - first.columns));
                }
            }
            return DONE;
        }

        int becomeLinked(Table first, Table second) {
            int left = first.columns - 1;
            int newRows = first.rows + second.rows - 1;
            int newColumns = left + second.columns;
            if (left < 1 || second.rows < 2 || newRows > MOST || newColumns > MOST) {
                return CANNOT;
            }
            clear(newRows, newColumns);
            for (int row = 0; row < newRows; row++) {
                for (int column = 0; column < newColumns; column++) {
                    put(row, column, linked(first, second, row, column));
                }
            }
            return DONE;
        }

        private static int linked(Table first, Table second, int row, int column) {
            int left = first.columns - 1;
            if (row >= first.rows) {
                return second.at(row - first.rows + 1, column - left);
            }
            return column < left ? first.at(row, column) : first.at(row, left) * second.at(0, column - left);
        }

        /** HALVES of a set of rows, or NONE. */
        int halved(int set) {
            for (int part = 0; part <= set && part < SETS; part++) {
                if ((part & ~set) == 0 && halvesAll(set, part)) {
                    return part;
                }
            }
            return NONE;
        }

        private boolean halvesAll(int set, int part) {
            for (int column = 0; column < columns; column++) {
                int sum = 0;
                for (int row = 0; row < rows; row++) {
                    if (isIn(set, row)) {
                        sum += isIn(part, row) ? at(row, column) : -at(row, column);
                    }
                }
                if (isBeyond(sum)) {
                    return false;
                }
            }
            return true;
        }

        /** Whether it can become the other one by negating rows and columns. */
        boolean scalesTo(Table other) {
            if (rows != other.rows || columns != other.columns) {
                return false;
            }
            for (int negated = 0; negated < SETS && hasRowSet(negated); negated++) {
                int column = 0;
                while (column < columns && (columnIs(other, column, negated, 1) || columnIs(other, column, negated, -1))) {
                    column++;
                }
                if (column == columns) {
                    return true;
                }
            }
            return false;
        }

        private boolean columnIs(Table other, int column, int negated, int sign) {
            for (int row = 0; row < rows; row++) {
                int value = isIn(negated, row) ? -at(row, column) : at(row, column);
                if (value * sign != other.at(row, column)) {
                    return false;
                }
            }
            return true;
        }
    }

    /** The tables ahead of the latest acts, in a ring: the oldest gives way to the newest. */
    private static final class Past {
        private final Table[] tables = new Table[MOST_UNDONE];
        private int oldest;
        private int size;

        Past() {
            for (int i = 0; i < MOST_UNDONE; i++) {
                tables[i] = new Table();
            }
        }

        void clear() {
            size = 0;
        }

        void add(Table table) {
            tables[(oldest + size) % MOST_UNDONE].copyFrom(table);
            if (size < MOST_UNDONE) {
                size++;
            } else {
                oldest = (oldest + 1) % MOST_UNDONE;
            }
        }

        void takeBack(Table table) {
            if (size > 0) {
                size--;
                table.copyFrom(tables[(oldest + size) % MOST_UNDONE]);
            }
        }
    }

    /** The steps of a script, not yet tested against any table. */
    private static final class Script {
        private static final String LETTERS = "rcxypte";
        private static final int[] SIGNS = {2, 2, 3, 3, 3, 1, 4};

        private int size;
        private final int[] kinds = new int[MOST_STEPS];
        private final int[] firsts = new int[MOST_STEPS];
        private final int[] seconds = new int[MOST_STEPS];
        private final int[] values = new int[MOST_STEPS];

        /** Takes the tape for its text; answers the FAULT, behind which it is half read. */
        int read(Tape tape) {
            size = 0;
            int signs = 0;
            for (int i = 0; i < tape.length; i++) {
                int sign = tape.at(i);
                if (sign == ' ') {
                    continue;
                }
                if (isWhole(signs)) {
                    if (sign != ';' || size == MOST_STEPS) {
                        return i;
                    }
                    signs = 0;
                } else {
                    if (!(signs == 0 ? begins(sign) : goesOn(signs, sign))) {
                        return i;
                    }
                    signs++;
                }
            }
            return isWhole(signs) ? NONE : tape.length;
        }

        private boolean isWhole(int signs) {
            return signs > 0 && size > 0 && signs == SIGNS[kinds[size - 1]];
        }

        private boolean begins(int letter) {
            int kind = LETTERS.indexOf((char) letter);
            if (kind < 0 || size >= MOST_STEPS) {
                return false;
            }
            kinds[size] = kind;
            firsts[size] = HIDDEN;
            seconds[size] = HIDDEN;
            values[size] = HIDDEN;
            size++;
            return true;
        }

        private boolean goesOn(int signs, int sign) {
            int last = size - 1;
            if (last < 0) {
                return false;
            }
            if (signs == 3) {
                values[last] = valueOfSign(sign);
                return values[last] != HIDDEN;
            }
            if (sign < '0' || sign > '9') {
                return false;
            }
            if (signs == 1) {
                firsts[last] = sign - '0';
            } else {
                seconds[last] = sign - '0';
            }
            return true;
        }

        int tell(int i, int what) {
            if (i < 0 || i >= size) {
                return HIDDEN;
            }
            switch (what) {
                case 0: return kinds[i];
                case 1: return firsts[i];
                case 2: return seconds[i];
                case 3: return values[i];
                default: return HIDDEN;
            }
        }
    }

    /** The determinants of all squares of a table. */
    private static final class Minors {
        // By row sets, in these by column sets; where these are not as many as those it stays 0.
        private final int[] dets = new int[SETS * SETS];
        private int rowSets;
        private int columnSets;
        // The WITNESS; no rows: there is none.
        private int beyondRows;
        private int beyondColumns;
        private boolean known;

        void reckon(Table table) {
            rowSets = 1 << table.rows;
            columnSets = 1 << table.columns;
            beyondRows = 0;
            beyondColumns = 0;
            // Of nothing left the determinant is 1.
            dets[0] = 1;
            for (int rows = 1; rows < rowSets; rows++) {
                int size = Integer.bitCount(rows);
                for (int columns = 1; columns < columnSets; columns++) {
                    if (Integer.bitCount(columns) == size) {
                        int det = expanded(table, rows, columns);
                        dets[rows * SETS + columns] = det;
                        if (isBeyond(det)) {
                            noteBeyond(rows, columns);
                        }
                    }
                }
            }
        }

        /** By the least row; the squares without it have been reckoned before, as their row set is less. */
        private int expanded(Table table, int rows, int columns) {
            int others = rows & (rows - 1);
            int row = Integer.bitCount((rows ^ others) - 1);
            int sum = 0;
            int sign = 1;
            for (int column = 0; column < table.columns; column++) {
                if (isIn(columns, column)) {
                    int value = table.at(row, column);
                    if (value != 0) {
                        sum += sign * value * of(others, columns ^ (1 << column));
                    }
                    sign = -sign;
                }
            }
            return sum;
        }

        private void noteBeyond(int rows, int columns) {
            if (beyondRows == 0 || Integer.bitCount(rows) < Integer.bitCount(beyondRows)) {
                beyondRows = rows;
                beyondColumns = columns;
            }
        }

        boolean allWithin() {
            return beyondRows == 0;
        }

        int of(int rows, int columns) {
            if (rows < 0 || rows >= SETS || columns < 0 || columns >= SETS) {
                return 0;
            }
            return dets[rows * SETS + columns];
        }

        /** Whether all would be within -1 .. 1, if that entry had that value. */
        boolean allWithinIf(Table table, int row, int column, int value) {
            int more = value - table.at(row, column);
            for (int rows = 1; rows < rowSets; rows++) {
                boolean hasRow = isIn(rows, row);
                for (int columns = 1; columns < columnSets; columns++) {
                    int det = of(rows, columns);
                    if (hasRow && isIn(columns, column)) {
                        det += more * cofactor(rows, columns, row, column);
                    }
                    if (isBeyond(det)) {
                        return false;
                    }
                }
            }
            return true;
        }

        private int cofactor(int rows, int columns, int row, int column) {
            int ahead = Integer.bitCount(rows & ((1 << row) - 1)) + Integer.bitCount(columns & ((1 << column) - 1));
            int minor = of(rows ^ (1 << row), columns ^ (1 << column));
            return (ahead & 1) == 0 ? minor : -minor;
        }

        int howMany(int size, int what) {
            int found = 0;
            for (int rows = 1; rows < rowSets; rows++) {
                for (int columns = 1; columns < columnSets; columns++) {
                    if (Integer.bitCount(rows) == size && Integer.bitCount(columns) == size
                            && sortOf(of(rows, columns)) == what) {
                        found++;
                    }
                }
            }
            return found;
        }

        private static int sortOf(int det) {
            if (isBeyond(det)) {
                return 2;
            }
            return det == 0 ? 0 : 1;
        }

        int howManyNotNought() {
            int found = 0;
            for (int rows = 1; rows < rowSets; rows++) {
                for (int columns = 1; columns < columnSets; columns++) {
                    if (of(rows, columns) != 0) {
                        found++;
                    }
                }
            }
            return found;
        }

        int largestNotNought(int by) {
            int largest = 0;
            for (int rows = 1; rows < rowSets; rows++) {
                for (int columns = 1; columns < columnSets; columns++) {
                    int det = of(rows, columns);
                    boolean nought = by == 0 ? det == 0 : det % by == 0;
                    if (!nought) {
                        largest = Math.max(largest, Integer.bitCount(rows));
                    }
                }
            }
            return largest;
        }
    }

    /** The TREE of a table, or of it transposed. */
    private static final class Tree {
        private final Table plan = new Table();
        private final int[] tails = new int[MOST];
        private final int[] heads = new int[MOST];
        private boolean found;
        private boolean known;

        void seek(Table table, boolean transposed, boolean total) {
            plan.copyFrom(table);
            if (transposed) {
                plan.transpose();
            }
            found = total && grow(0);
        }

        private boolean grow(int arc) {
            if (arc >= plan.rows || arc >= MOST) {
                return true;
            }
            for (int node = 0; node <= arc; node++) {
                int ends = arcsAt(node, arc);
                for (int set = 0; set < SETS && set <= ends; set++) {
                    if (isNew(set, ends)
                            && (growBy(arc, node, set, 0) || (ends != 0 && growBy(arc, node, set, 1)))) {
                        return true;
                    }
                }
            }
            return false;
        }

        /**
         * Of a set and the node's other arcs the greater one is left out: it makes the same trees, but for
         * the numbers of two nodes and which way is which, and the lesser one has been tried before. So is
         * the other way, where no arc ends at the node.
         */
        private static boolean isNew(int set, int ends) {
            return (set & ~ends) == 0 && set <= (ends ^ set);
        }

        private boolean growBy(int arc, int node, int set, int way) {
            int fresh = arc + 1;
            moveEnds(set, node, fresh);
            tails[arc] = way == 0 ? node : fresh;
            heads[arc] = way == 0 ? fresh : node;
            if (areWays(arc) && grow(arc + 1)) {
                return true;
            }
            moveEnds(set, fresh, node);
            return false;
        }

        private int arcsAt(int node, int arcs) {
            int set = 0;
            for (int arc = 0; arc < arcs && arc < MOST; arc++) {
                if (tails[arc] == node || heads[arc] == node) {
                    set |= 1 << arc;
                }
            }
            return set;
        }

        private void moveEnds(int set, int from, int to) {
            for (int arc = 0; arc < MOST; arc++) {
                if (isIn(set, arc)) {
                    if (tails[arc] == from) {
                        tails[arc] = to;
                    } else {
                        heads[arc] = to;
                    }
                }
            }
        }

        private boolean areWays(int lastArc) {
            for (int column = 0; column < plan.columns; column++) {
                if (Integer.bitCount(starts(column, lastArc)) > 1) {
                    return false;
                }
            }
            return true;
        }

        /**
         * The nodes (bits) that an arc of the column leaves and none comes to; all bits: two leave one node, or
         * come to one. As a tree has no closed ways, the column is a way just if it has one start or no arc.
         */
        private int starts(int column, int lastArc) {
            int left = 0;
            int reached = 0;
            for (int arc = 0; arc <= lastArc && arc < MOST; arc++) {
                int value = plan.at(arc, column);
                if (value != 0) {
                    int from = 1 << leaves(arc, value);
                    int to = 1 << reaches(arc, value);
                    if ((left & from) != 0 || (reached & to) != 0) {
                        return -1;
                    }
                    left |= from;
                    reached |= to;
                }
            }
            return left & ~reached;
        }

        private int leaves(int arc, int value) {
            return value > 0 ? tails[arc] : heads[arc];
        }

        private int reaches(int arc, int value) {
            return value > 0 ? heads[arc] : tails[arc];
        }

        int endOf(int arc, int what) {
            if (!found || arc < 0 || arc >= plan.rows || arc >= MOST || what < 0 || what > 1) {
                return NONE;
            }
            return what == 0 ? tails[arc] : heads[arc];
        }

        int arcOnWay(int column, int i) {
            if (!found || i < 0 || i >= plan.rows || column < 0 || column >= plan.columns) {
                return NONE;
            }
            int node = Integer.bitCount(starts(column, plan.rows - 1) - 1);
            int arc = arcFrom(column, node);
            for (int gone = 0; gone < i && gone < MOST && arc != NONE; gone++) {
                arc = arcFrom(column, reaches(arc, plan.at(arc, column)));
            }
            return arc;
        }

        private int arcFrom(int column, int node) {
            for (int arc = 0; arc < plan.rows && arc < MOST; arc++) {
                int value = plan.at(arc, column);
                if (value != 0 && leaves(arc, value) == node) {
                    return arc;
                }
            }
            return NONE;
        }
    }

    /** The signs that follow from where a table has no 0. */
    private static final class Signing {
        private static final int FAR = 1000;

        private final Table signs = new Table();
        private final int[] rowParts = new int[MOST];
        private final int[] columnParts = new int[MOST];
        // How far rows and columns are, by signs told, from the column last measured from.
        private final int[] rowsFar = new int[MOST];
        private final int[] columnsFar = new int[MOST];
        private int nextRow;
        private int nextColumn;
        private boolean known;

        void signAll(Table table) {
            signs.clear(table.rows, table.columns);
            signForest(table);
            for (int i = 0; i < CELLS && findNext(table); i++) {
                measureFrom(nextColumn);
                // A way has an odd number of signs, so its sum is 1 or 3 beyond a number of times 4.
                signs.put(nextRow, nextColumn, (sumOfWay(nextRow) & 3) == 3 ? 1 : -1);
            }
        }

        private void signForest(Table table) {
            for (int i = 0; i < MOST; i++) {
                rowParts[i] = i;
                columnParts[i] = MOST + i;
            }
            for (int row = 0; row < table.rows; row++) {
                for (int column = 0; column < table.columns; column++) {
                    if (table.at(row, column) != 0 && rowParts[row] != columnParts[column]) {
                        signs.put(row, column, 1);
                        unite(rowParts[row], columnParts[column]);
                    }
                }
            }
        }

        private void unite(int part, int other) {
            for (int i = 0; i < MOST; i++) {
                if (rowParts[i] == other) {
                    rowParts[i] = part;
                }
                if (columnParts[i] == other) {
                    columnParts[i] = part;
                }
            }
        }

        /** Finds the entry to be told next; false: all are told. */
        private boolean findNext(Table table) {
            int least = FAR * CELLS;
            for (int column = 0; column < table.columns; column++) {
                measureFrom(column);
                for (int row = 0; row < table.rows; row++) {
                    int order = rowsFar[row] * CELLS + row * MOST + column;
                    if (table.at(row, column) != 0 && signs.at(row, column) == 0 && order < least) {
                        least = order;
                        nextRow = row;
                        nextColumn = column;
                    }
                }
            }
            return least < FAR * CELLS;
        }

        private void measureFrom(int start) {
            for (int i = 0; i < MOST; i++) {
                rowsFar[i] = FAR;
                columnsFar[i] = i == start ? 0 : FAR;
            }
            for (int far = 1; far < 2 * MOST; far += 2) {
                reachRows(far);
                reachColumns(far + 1);
            }
        }

        private void reachRows(int far) {
            for (int row = 0; row < signs.rows; row++) {
                if (rowsFar[row] == FAR && columnToldAt(row, far - 1) != NONE) {
                    rowsFar[row] = far;
                }
            }
        }

        private void reachColumns(int far) {
            for (int column = 0; column < signs.columns; column++) {
                if (columnsFar[column] == FAR && rowToldAt(column, far - 1) != NONE) {
                    columnsFar[column] = far;
                }
            }
        }

        /** The signs added up on the way from a row to the column last measured from. */
        private int sumOfWay(int start) {
            int row = start;
            int sum = 0;
            for (int far = rowsFar[start]; far > 0 && row != NONE; far -= 2) {
                int column = columnToldAt(row, far - 1);
                sum += signs.at(row, column);
                row = rowToldAt(column, far - 2);
                sum += signs.at(row, column);
            }
            return sum;
        }

        /** The lowest column so far away to which a told entry of the row leads, or NONE. */
        private int columnToldAt(int row, int far) {
            for (int column = 0; column < signs.columns; column++) {
                if (columnsFar[column] == far && signs.at(row, column) != 0) {
                    return column;
                }
            }
            return NONE;
        }

        private int rowToldAt(int column, int far) {
            for (int row = 0; row < signs.rows; row++) {
                if (rowsFar[row] == far && signs.at(row, column) != 0) {
                    return row;
                }
            }
            return NONE;
        }
    }

    /** Where a table has no 0, as a graph of its rows and columns. */
    private static final class Shape {
        private int rows;
        private int columns;
        private final int[] across = new int[MOST];
        private final int[] down = new int[MOST];
        private int parts;
        private final int[] partRows = new int[2 * MOST];
        private final int[] partColumns = new int[2 * MOST];

        void takeFrom(Table table) {
            rows = table.rows;
            columns = table.columns;
            for (int i = 0; i < MOST; i++) {
                across[i] = 0;
                down[i] = 0;
            }
            for (int row = 0; row < rows; row++) {
                for (int column = 0; column < columns; column++) {
                    if (table.at(row, column) != 0) {
                        across[row] |= 1 << column;
                        down[column] |= 1 << row;
                    }
                }
            }
        }

        private int columnsMetBy(int rowSet) {
            int met = 0;
            for (int row = 0; row < rows; row++) {
                if (isIn(rowSet, row)) {
                    met |= across[row];
                }
            }
            return met;
        }

        private int rowsMetBy(int columnSet) {
            int met = 0;
            for (int column = 0; column < columns; column++) {
                if (isIn(columnSet, column)) {
                    met |= down[column];
                }
            }
            return met;
        }

        void findParts() {
            parts = 0;
            int seen = 0;
            for (int row = 0; row < rows; row++) {
                if (!isIn(seen, row)) {
                    int joined = allJoinedTo(row);
                    addPart(joined, columnsMetBy(joined));
                    seen |= joined;
                }
            }
            for (int column = 0; column < columns; column++) {
                if (down[column] == 0) {
                    addPart(0, 1 << column);
                }
            }
        }

        private int allJoinedTo(int row) {
            int joined = 1 << row;
            for (int i = 0; i < MOST; i++) {
                joined |= rowsMetBy(columnsMetBy(joined));
            }
            return joined;
        }

        private void addPart(int rowSet, int columnSet) {
            if (parts < 2 * MOST) {
                partRows[parts] = rowSet;
                partColumns[parts] = columnSet;
                parts++;
            }
        }

        int partOf(int i, int what) {
            if (i < 0 || i >= parts || what < 0 || what > 1) {
                return NONE;
            }
            return what == 0 ? partRows[i] : partColumns[i];
        }

        /** PACK. */
        int mostApart() {
            int best = 0;
            for (int set = 1; set < 1 << columns; set++) {
                if (Integer.bitCount(set) > Integer.bitCount(best) && areApart(set)) {
                    best = set;
                }
            }
            return best;
        }

        private boolean areApart(int columnSet) {
            for (int row = 0; row < rows; row++) {
                if (Integer.bitCount(across[row] & columnSet) > 1) {
                    return false;
                }
            }
            return true;
        }

        /** COVER. */
        int fewestMeeting() {
            int all = (1 << rows) - 1;
            int best = all;
            for (int set = 0; set < all; set++) {
                if (columnsMetBy(set) == columnsMetBy(all) && Integer.bitCount(set) < Integer.bitCount(best)) {
                    best = set;
                }
            }
            return best;
        }

        /** CYCLE. */
        int shortestRound() {
            int best = NONE;
            for (int row = 0; row < rows; row++) {
                for (int column = 0; column < columns; column++) {
                    int round = isIn(across[row], column) ? roundBy(row, column) : NONE;
                    if (round != NONE && (best == NONE || round < best)) {
                        best = round;
                    }
                }
            }
            return best;
        }

        /** How many entries the shortest round has that goes by this one, or NONE. */
        private int roundBy(int row, int column) {
            int reached = across[row] & ~(1 << column);
            for (int entries = 4; entries <= 2 * MOST; entries += 2) {
                int rowsReached = rowsMetBy(reached) & ~(1 << row);
                reached |= columnsMetBy(rowsReached);
                if (isIn(reached, column)) {
                    return entries;
                }
            }
            return NONE;
        }
    }

    /** Compares a table with one of the two special ones. */
    private static final class Pattern {
        private static final int SIDE = 5;
        private static final int ORDERS = 120;

        private final Table special = new Table();
        private final Table moved = new Table();
        private final int[] order = new int[SIDE];

        boolean fits(Table table, String text) {
            if (table.rows != SIDE || table.columns != SIDE) {
                return false;
            }
            write(text);
            if (table.notNought() != special.notNought()) {
                return false;
            }
            for (int number = 0; number < ORDERS; number++) {
                setOrder(number);
                if (moveColumns(table) && moved.scalesTo(special)) {
                    return true;
                }
            }
            return false;
        }

        private void write(String text) {
            special.clear(SIDE, SIDE);
            for (int i = 0; i < text.length(); i++) {
                int value = valueOfSign(text.charAt(i));
                if (value != HIDDEN) {
                    special.put(i / (SIDE + 1), i % (SIDE + 1), value);
                }
            }
        }

        /** One of the orders in which the table's rows can stand. */
        private void setOrder(int number) {
            int rest = number;
            int used = 0;
            for (int place = 0; place < SIDE; place++) {
                int free = SIDE - place;
                order[place] = notUsed(used, free > 0 ? rest % free : 0);
                rest = free > 0 ? rest / free : 0;
                used |= 1 << order[place];
            }
        }

        private static int notUsed(int used, int ahead) {
            int left = ahead;
            for (int row = 0; row < SIDE; row++) {
                if (!isIn(used, row)) {
                    if (left == 0) {
                        return row;
                    }
                    left--;
                }
            }
            return 0;
        }

        /**
         * Puts the rows in that order, and each column where the special table has its noughts so; false:
         * there is no such column. No two columns of a special table have them alike, so there is no choice.
         */
        private boolean moveColumns(Table table) {
            moved.clear(SIDE, SIDE);
            for (int column = 0; column < SIDE; column++) {
                int from = 0;
                while (from < SIDE && !isAlike(table, from, column)) {
                    from++;
                }
                if (from == SIDE) {
                    return false;
                }
                for (int row = 0; row < SIDE; row++) {
                    moved.put(row, column, table.at(order[row], from));
                }
            }
            return true;
        }

        private boolean isAlike(Table table, int from, int column) {
            for (int row = 0; row < SIDE; row++) {
                if ((table.at(order[row], from) == 0) != (special.at(row, column) == 0)) {
                    return false;
                }
            }
            return true;
        }
    }

    /** The draws that follow from a seed. */
    private static final class Dice {
        private long x;

        int draw(int sides) {
            x = x * 6364136223846793005L + 1442695040888963407L;
            return sides > 0 ? (int) ((x >>> 33) % sides) : 0;
        }
    }
}
