import java.math.BigInteger;
import java.util.List;
import java.util.function.Supplier;

/** The edges of promises 35 to 42: scripts, draws, STATUS, images, counts. */
public final class Promises35To42EdgesTest {
    private static final int NONE = UnimodularTables.NONE;
    private static final int HIDDEN = UnimodularTables.HIDDEN;
    private static final int[] FAR = {States.LEAST, -1000000, -2, -1, 12, 13, 64, States.GREATEST};
    private static final List<Supplier<UnimodularTables>> NO_TABLE = List.of(UnimodularTables::new, States::bare);
    private static final Check check = new Check();

    public static void main(String[] args) {
        check.runAll(Promises35To42EdgesTest.class);
    }

    private static UnimodularTables scripted(String table, String script) {
        UnimodularTables x = Check.of(table);
        Check.script(x, script);
        return x;
    }

    // ---- 35: step

    static void promise35StepOfEachKind() {
        UnimodularTables x = new UnimodularTables();
        Check.script(x, "r0;c9;x09;y90;p19;t;e98-;e010;e77+;t;r5;c4");
        int[][] want = {{0, 0, HIDDEN, HIDDEN}, {1, 9, HIDDEN, HIDDEN}, {2, 0, 9, HIDDEN}, {3, 9, 0, HIDDEN}, {4, 1, 9, HIDDEN},
            {5, HIDDEN, HIDDEN, HIDDEN}, {6, 9, 8, -1}, {6, 0, 1, 0}, {6, 7, 7, 1}, {5, HIDDEN, HIDDEN, HIDDEN}, {0, 5, HIDDEN, HIDDEN},
            {1, 4, HIDDEN, HIDDEN}};
        for (int i = 0; i < 12; i++) {
            for (int what = 0; what < 4; what++) {
                check.due("step(0, " + i + ", " + what + ")", x.step(0, i, what), want[i][what]);
            }
            check.due("what -1", x.step(0, i, -1), HIDDEN);
            check.due("what 4", x.step(0, i, 4), HIDDEN);
        }
        check.due("a thirteenth", x.step(0, 12, 0), HIDDEN);
    }

    static void promise35StepThatIsNotThere() {
        for (int far : FAR) {
            check.refused("step(" + far + ", 0, 0)", States::busy, x -> x.step(far, 0, 0), HIDDEN);
            check.refused("step(0, " + far + ", 0)", States::busy, x -> x.step(0, far, 0), HIDDEN);
            check.refused("step(0, 0, " + far + ")", States::busy, x -> x.step(0, 0, far), HIDDEN);
        }
        check.refused("one script more", States::busy, x -> x.step(1, 0, 0), HIDDEN);
        check.refused("a fifth script", States::full, x -> x.step(4, 0, 0), HIDDEN);
        check.refused("one step more", States::busy, x -> x.step(0, 4, 0), HIDDEN);
        check.refused("what 4", States::busy, x -> x.step(0, 0, 4), HIDDEN);
        check.refused("none there", UnimodularTables::new, x -> x.step(0, 0, 0), HIDDEN);
        check.due("the last step", States.busy().step(0, 3, 2), 1);
        check.due("the fourth script", States.full().step(3, 0, 1), 3);
        check.due("of no table", States.bare().step(0, 1, 3), -1);
    }

    /** What is read as a script, and refused or cut short, leaves no steps behind. */
    static void promise35StepOfAShorterScriptBehindALongerTape() {
        UnimodularTables x = new UnimodularTables();
        Check.tape(x, "r1;r2;r3;r4;");
        check.due("a fault", x.text(1), NONE);
        check.due("no script", x.step(0, 0, 0), HIDDEN);
        Check.tape(x, "t");
        check.due("a script", x.text(1), 0);
        check.due("its step", x.step(0, 0, 1), HIDDEN);
        check.due("no second", x.step(0, 1, 0), HIDDEN);
    }

    // ---- 36: run

    static void promise36RunWhereAllCanBe() {
        check.refused("all can be", () -> scripted("+-/0+", "r0;t;x01"), x -> x.run(0, 0), NONE);
        check.refused("total behind", () -> scripted("+-/0+", "r0;t;x01"), x -> x.run(0, 1), 1);
        check.refused("not total behind", () -> scripted("++/0+", "e10-"), x -> x.run(0, 1), 0);
        check.refused("total behind, not before", () -> scripted("++/-+", "e100"), x -> x.run(0, 1), 1);
    }

    static void promise36RunUpToTheFirstThatCantBe() {
        String[] cant = {"r2", "c2", "x02", "x20", "y02", "x00", "y11", "p20", "p02", "p10", "e20+", "e02+", "e00+"};
        for (String step : cant) {
            check.refused(step + " at once", () -> scripted("++/0-", step), x -> x.run(0, 0), 0);
        }
        check.refused("turned beyond", () -> scripted("++/-+", "p00"), x -> x.run(0, 0), 0);
        check.refused("total behind none", () -> scripted("++/-+", "p00;e100"), x -> x.run(0, 1), 0);
        check.refused("the last of twelve", () -> scripted("+", "t;t;t;t;t;t;t;t;t;t;t;r1"), x -> x.run(0, 0), 11);
        check.refused("all of twelve", () -> scripted("+", "t;t;t;t;t;t;t;t;t;t;t;r0"), x -> x.run(0, 0), NONE);
        check.refused("what comes behind counts for nothing", () -> scripted("++/0+", "r0;r9;e10-"), x -> x.run(0, 1), 1);
        check.refused("where the steps ahead let it", () -> scripted("+-0", "t;r2;c1"), x -> x.run(0, 0), 2);
    }

    static void promise36RunBeginsWithTheTableAsItIs() {
        UnimodularTables x = scripted("++/-+", "e000");
        check.due("it can be", x.run(0, 0), NONE);
        x.change(0, 0, 0);
        check.due("it is so by now", x.run(0, 0), 0);
        check.due("total behind none", x.run(0, 1), 1);
        x.undo();
        check.due("undone", x.run(0, 0), NONE);
        x.fault(0);
        check.due("a question between", x.run(0, 1), 1);
        check.due("the table is not total", x.total(), 0);
    }

    static void promise36RunThatIsNotThere() {
        for (int far : FAR) {
            check.refused("run(" + far + ", 0)", States::busy, x -> x.run(far, 0), HIDDEN);
            check.refused("run(0, " + far + ")", States::busy, x -> x.run(0, far), HIDDEN);
        }
        check.refused("one script more", States::busy, x -> x.run(1, 0), HIDDEN);
        check.refused("a fifth script", States::full, x -> x.run(4, 0), HIDDEN);
        check.refused("what 2", States::busy, x -> x.run(0, 2), HIDDEN);
        check.refused("of no table", States::bare, x -> x.run(0, 0), HIDDEN);
        check.refused("of nothing", UnimodularTables::new, x -> x.run(0, 1), HIDDEN);
        check.due("the fourth script can't be", States.full().run(3, 0), 0);
        check.due("the first can", States.full().run(0, 0), NONE);
    }

    // ---- 37: perform

    static void promise37PerformUpToTheFirstThatCantBe() {
        UnimodularTables x = scripted("+-/0+", "r0;c1;x00;t");
        check.due("perform", x.perform(0), 2);
        check.showsAs("perform", x, "--/0-");
        check.due("acts", x.count(5), 2);
        for (int what = 0; what < 4; what++) {
            check.due("the step that can't be is no act: status(" + what + ")", x.status(what), 0);
        }
        check.due("undo", x.undo(), 1);
        check.showsAs("undo", x, "-+/0+");
        check.due("undo", x.undo(), 0);
        check.showsAs("undo", x, "+-/0+");
    }

    static void promise37PerformOfNoneAndAll() {
        check.refused("none can be", () -> scripted("+-/0+", "r2;t"), x -> x.perform(0), 0);
        UnimodularTables x = scripted("+", "t;t;t;t;t;t;t;t;t;t;t;r0");
        check.due("all twelve", x.perform(0), 12);
        check.showsAs("all twelve", x, "-");
        check.due("acts", x.count(5), 12);
    }

    static void promise37PerformBeyondForty() {
        UnimodularTables x = scripted("+0", "r0;r0;r0;r0;r0;r0;r0;r0;r0;r0;r0;t");
        for (int i = 1; i <= 4; i++) {
            check.due("perform", x.perform(0), 12);
            check.due("acts", x.count(5), Math.min(12 * i, 40));
        }
        for (int left = 39; left >= 0; left--) {
            check.due("undo", x.undo(), left);
        }
        check.due("no more", x.undo(), NONE);
        // 48 acts less 40: eight negations of the first time stay.
        check.showsAs("eight acts stay", x, "+0");
    }

    static void promise37PerformThatIsNotThere() {
        for (int far : FAR) {
            check.refused("perform(" + far + ")", States::busy, x -> x.perform(far), NONE);
        }
        check.refused("one script more", States::busy, x -> x.perform(1), NONE);
        check.refused("a fifth script", States::full, x -> x.perform(4), NONE);
        check.refused("of no table", States::bare, x -> x.perform(0), NONE);
        check.refused("of nothing", UnimodularTables::new, x -> x.perform(0), NONE);
    }

    // ---- 38: draws

    static void promise38DrawsOutOfBounds() {
        for (int n : new int[] {States.LEAST, -1, 0, 31, 32, States.GREATEST}) {
            check.refused("draws(" + n + ", 1)", States::busy, x -> x.draws(n, 1), NONE);
        }
        for (Supplier<UnimodularTables> state : NO_TABLE) {
            for (int n : new int[] {0, 1, 30, 31}) {
                check.refused("draws(" + n + ", 1) of no table", state, x -> x.draws(n, 1), NONE);
            }
        }
        check.due("draws(1)", States.busy().draws(1, 1) >= 0, true);
        check.due("draws(30)", States.busy().draws(30, 1) >= 0, true);
    }

    static void promise38DrawsFromEachSeed() {
        long[] seeds = {0, 1, -1, 2, 33, Long.MIN_VALUE, Long.MAX_VALUE, Long.MIN_VALUE + 1, 1L << 62, 1L << 33, -(1L << 33),
            6364136223846793005L, -6364136223846793005L, 1442695040888963407L, -1442695040888963407L, 0x123456789ABCDEFL};
        for (String text : List.of("+", "+-/0+", "+-0/0+-", "++0+-0", "+/-/0/+/-", "+-0+-0/0+-0+-/++0--0/-0+-0+/000+++/+0+0+0")) {
            for (long seed : seeds) {
                drawnAs(text, 1, seed);
                drawnAs(text, 30, seed);
            }
        }
    }

    /** Does the acts one by one on another object, by numbers without a bound cut down to 64 bits. */
    private static void drawnAs(String text, int n, long seed) {
        UnimodularTables x = Check.of(text);
        UnimodularTables y = Check.of(text);
        Drawn drawn = new Drawn(y, seed);
        int acts = 0;
        for (int i = 0; i < n; i++) {
            acts += drawn.act() ? 1 : 0;
        }
        check.due("draws(" + n + ", " + seed + ") of " + text, x.draws(n, seed), acts);
        check.showsAs("draws(" + n + ", " + seed + ") of " + text, x, Check.show(y));
        check.due("acts", x.count(5), acts);
        for (int what = 0; what < 4; what++) {
            check.due("no status", x.status(what), 0);
        }
        for (int left = acts - 1; left >= 0; left--) {
            check.due("undo", x.undo(), left);
        }
        check.showsAs("all undone", x, text);
    }

    private static final class Drawn {
        private static final BigInteger ROUND = BigInteger.ONE.shiftLeft(64);
        private static final BigInteger TIMES = new BigInteger("6364136223846793005");
        private static final BigInteger MORE = new BigInteger("1442695040888963407");

        private final UnimodularTables y;
        private BigInteger x;

        Drawn(UnimodularTables y, long seed) {
            this.y = y;
            x = BigInteger.valueOf(seed).mod(ROUND);
        }

        private int draw(int j) {
            x = x.multiply(TIMES).add(MORE).mod(ROUND);
            return x.shiftRight(33).mod(BigInteger.valueOf(j)).intValue();
        }

        boolean act() {
            int rows = y.count(0);
            int columns = y.count(1);
            int kind = draw(6);
            int a = draw(kind == 1 || kind == 3 ? columns : rows);
            int b = kind < 2 ? 0 : draw(kind == 2 ? rows : columns);
            return kind == 5 ? y.change(a, b, draw(3) - 1) != HIDDEN : y.deal(kind, a, b) != NONE;
        }
    }

    static void promise38DrawsBeyondForty() {
        UnimodularTables x = Check.of("+-0/0+-");
        int acts = x.draws(30, 5) + x.draws(30, 6) + x.draws(30, 7);
        check.due("more than forty acts", acts > 40, true);
        check.due("acts", x.count(5), 40);
    }

    // ---- 39: status

    static void promise39StatusOfNoSuchWhat() {
        for (int what : new int[] {States.LEAST, -2, -1, 4, 5, States.GREATEST}) {
            check.refused("status(" + what + ")", States::busy, x -> x.status(what), NONE);
            check.refused("status(" + what + ")", UnimodularTables::new, x -> x.status(what), NONE);
        }
    }

    static void promise39StatusCountsEachRefusedAct() {
        UnimodularTables x = new UnimodularTables();
        for (int i = 1; i <= 3; i++) {
            x.deal(0, 0, 0);
            check.due("no table", x.status(0), i);
        }
        Check.table(x, "+-");
        for (int i = 1; i <= 20; i++) {
            x.change(1, 0, 0);
            x.deal(2, 0, 0);
            x.deal(6, 0, 0);
            check.due("no such row", x.status(1), i);
            check.due("alike", x.status(2), i);
            check.due("it can't be", x.status(3), i);
        }
        check.due("no table", x.status(0), 3);
    }

    static void promise39StatusOfActsThatAreDone() {
        UnimodularTables x = States.busy();
        int[] before = {x.status(0), x.status(1), x.status(2), x.status(3)};
        x.deal(0, 0, 0);
        x.change(0, 0, 0);
        x.join(1, 1, 0);
        x.perform(0);
        x.draws(30, 7);
        x.undo();
        x.keep();
        x.keep();
        x.keep();
        x.image();
        x.back();
        for (int what = 0; what < 4; what++) {
            check.due("status(" + what + ")", x.status(what), before[what]);
        }
    }

    // ---- 40: image

    static void promise40ImageOfNoTable() {
        for (Supplier<UnimodularTables> state : NO_TABLE) {
            check.refused("image", state, UnimodularTables::image, NONE);
        }
    }

    static void promise40ImageTellsHowManyAreKept() {
        UnimodularTables x = Check.of("+-");
        for (int kept = 0; kept <= 4; kept++) {
            check.due("image", x.image(), kept);
            check.due("back", x.back(), kept);
            x.keep();
        }
        check.due("of four", x.image(), 4);
    }

    static void promise40ImageInsteadOfTheOneAhead() {
        UnimodularTables x = Check.of("+-");
        x.image();
        x.keep();
        x.deal(0, 0, 0);
        check.due("image", x.image(), 1);
        x.deal(5, 0, 0);
        check.due("back", x.back(), 1);
        check.showsAs("back", x, "-+");
        check.due("the kept one stays", x.kept(0, 0, 0), 1);
    }

    static void promise40ImageLeavesTheRest() {
        UnimodularTables x = States.busy();
        check.due("image", x.image(), 3);
        check.due("acts", x.count(5), 2);
        check.due("undo", x.undo(), 1);
        check.due("the tape", x.count(4), 3);
        check.due("back", x.back(), 3);
        check.showsAs("the table as it was, not as undone", x, "++-/0--");
    }

    // ---- 41: back

    static void promise41BackOfNoImage() {
        for (Supplier<UnimodularTables> state : NO_TABLE) {
            check.refused("back", state, UnimodularTables::back, NONE);
        }
        check.refused("of a table", () -> Check.of("+-"), UnimodularTables::back, NONE);
        check.refused("of all but an image", States::full, UnimodularTables::back, NONE);
    }

    static void promise41BackForgetsActs() {
        UnimodularTables x = States.busy();
        int[] statuses = {x.status(0), x.status(1), x.status(2), x.status(3)};
        check.due("back", x.back(), 2);
        check.showsAs("back", x, "++/0+");
        check.due("acts", x.count(5), 0);
        check.due("undo", x.undo(), NONE);
        check.due("two are kept", x.count(2), 2);
        check.due("the third is there no more", x.kept(2, 0, 0), HIDDEN);
        check.due("the second is", x.kept(1, 1, 1), 1);
        check.due("the script stays", x.step(0, 3, 0), 2);
        check.due("the tape stays", x.count(4), 3);
        for (int what = 0; what < 4; what++) {
            check.due("status(" + what + ")", x.status(what), statuses[what]);
        }
    }

    static void promise41BackAgain() {
        UnimodularTables x = States.busy();
        x.back();
        x.deal(0, 0, 0);
        x.keep();
        check.due("acts", x.count(5), 1);
        check.due("back once more", x.back(), 2);
        check.showsAs("back once more", x, "++/0+");
        check.due("acts", x.count(5), 0);
    }

    static void promise41BackBehindATextOfAnotherSize() {
        UnimodularTables x = Check.of("+-0/0+-");
        x.image();
        Check.table(x, "++++++/++++++/++++++/++++++/++++++/++++++");
        check.due("back", x.back(), 0);
        check.showsAs("back", x, "+-0/0+-");
        check.due("no third row", Check.entry(x, 2, 0), Check.THROWN);
        check.due("entries that are not 0", x.count(6), 4);
    }

    // ---- 42: count

    static void promise42CountOfNoTable() {
        UnimodularTables x = States.bare();
        int[] want = {0, 0, 0, 1, 3, 0, 0};
        for (int what = 0; what < 7; what++) {
            check.due("count(" + what + ")", x.count(what), want[what]);
        }
    }

    static void promise42CountOfAll() {
        UnimodularTables x = States.full();
        int[] want = {1, 1, 4, 4, 240, 40, 1};
        for (int what = 0; what < 7; what++) {
            check.due("count(" + what + ")", x.count(what), want[what]);
        }
        UnimodularTables ones = Check.of("++++++/++++++/++++++/++++++/++++++/------");
        check.due("rows", ones.count(0), 6);
        check.due("columns", ones.count(1), 6);
        check.due("entries that are not 0", ones.count(6), 36);
        UnimodularTables busy = States.busy();
        int[] some = {2, 3, 3, 1, 3, 2, 5};
        for (int what = 0; what < 7; what++) {
            check.due("count(" + what + ")", busy.count(what), some[what]);
        }
        check.due("noughts alone", Check.of("00/00").count(6), 0);
    }

    static void promise42CountOfOthers() {
        for (int what : new int[] {States.LEAST, -2, -1, 7, 8, States.GREATEST}) {
            check.refused("count(" + what + ")", States::busy, x -> x.count(what), HIDDEN);
            check.refused("count(" + what + ")", UnimodularTables::new, x -> x.count(what), HIDDEN);
        }
    }

    static void promise42CountOfEntriesFollowsDropping() {
        UnimodularTables x = Check.of("++/+0");
        x.deal(6, 0, 0);
        check.due("a row dropped", x.count(6), 1);
        x.deal(7, 0, 0);
        check.due("a column dropped", x.count(6), 0);
        x.undo();
        x.undo();
        check.due("undone", x.count(6), 3);
    }
}
