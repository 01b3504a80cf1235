/** Promises 35 to 38: step, run, perform, draws. */
public final class ScriptsTest {
    private static final int HIDDEN = -1000000;
    private static final int LEAST = Integer.MIN_VALUE;
    private static final int GREATEST = Integer.MAX_VALUE;
    private static final Check check = new Check();

    public static void main(String[] args) {
        steps();
        runs();
        wrongRuns();
        performing();
        manySteps();
        drawing();
        wrongDraws();
        check.finish();
    }

    private static void steps() {
        UnimodularTables x = new UnimodularTables();
        Check.script(x, "t");
        int number = Check.script(x, "r1; c 2;x34;y56;p78;t;e90-;e 1 2 0;e34+");
        int[][] want = {{0, 1, HIDDEN, HIDDEN}, {1, 2, HIDDEN, HIDDEN}, {2, 3, 4, HIDDEN}, {3, 5, 6, HIDDEN}, {4, 7, 8, HIDDEN},
            {5, HIDDEN, HIDDEN, HIDDEN}, {6, 9, 0, -1}, {6, 1, 2, 0}, {6, 3, 4, 1}};
        for (int i = 0; i < want.length; i++) {
            for (int what = 0; what < 4; what++) {
                check.due("step(" + number + ", " + i + ", " + what + ")", x.step(number, i, what), want[i][what]);
            }
        }
        int[] wrong = {-1, LEAST, GREATEST};
        for (int w : wrong) {
            check.due("no such script", x.step(w, 0, 0), HIDDEN);
            check.due("no such step", x.step(number, w, 0), HIDDEN);
            check.due("no such what", x.step(number, 0, w), HIDDEN);
        }
        check.due("no such script", x.step(2, 0, 0), HIDDEN);
        check.due("no such step", x.step(number, 9, 0), HIDDEN);
        check.due("no such step", x.step(0, 1, 0), HIDDEN);
        check.due("no such what", x.step(number, 0, 4), HIDDEN);
        Check.tape(x, "c5;c6;c7");
        check.due("fault reads beside the scripts", x.fault(1), -1);
        check.due("no such script", x.step(2, 0, 0), HIDDEN);
        check.due("the one ahead", x.step(number, 0, 0), 0);
    }

    private static void runOf(String table, String script, int behind, int total, int done, String then) {
        UnimodularTables x = Check.of(table);
        int number = Check.script(x, script);
        String what = script + " on " + table;
        check.due("run(0) of " + what, x.run(number, 0), behind);
        check.due("run(1) of " + what, x.run(number, 1), total);
        check.showsAs("a run is apart", x, table);
        check.due("a run is apart", x.count(5), 0);
        check.due("perform of " + what, x.perform(number), done);
        check.showsAs("perform of " + what, x, then);
        check.due("acts", x.count(5), done);
        for (int status = 0; status < 4; status++) {
            check.due("status of " + what, x.status(status), 0);
        }
        for (int left = done - 1; left >= 0; left--) {
            check.due("undo of " + what, x.undo(), left);
        }
        check.showsAs("all undone", x, table);
    }

    private static void runs() {
        runOf("+-/0+", "r0;c1;x01;e00+;p00;t", 4, 0, 4, "+-/--");
        runOf("+-/0+", "t;x01;y01", -1, 1, 3, "+-/0+");
        runOf("+-0/0+-", "t;r2;c1;c2", 3, 1, 3, "+0/--/0-");
        runOf("+", "e00+;e00-", 0, 1, 0, "+");
        runOf("+", "e00-;e00-", 1, 1, 1, "-");
        runOf("++/-+", "e000;r0", -1, 1, 2, "0-/-+");
        runOf("++/+0", "e11-", -1, 0, 1, "++/+-");
        runOf("++/+0", "p11", 0, 1, 0, "++/+0");
        runOf("++/+0", "p00;p00", -1, 1, 2, "+-/-0");
        runOf("+-/0+", "x00", 0, 1, 0, "+-/0+");
        runOf("+-/0+", "y11", 0, 1, 0, "+-/0+");
        runOf("+-/0+", "x02", 0, 1, 0, "+-/0+");
        runOf("+-/0+", "y20", 0, 1, 0, "+-/0+");
        runOf("+-/0+", "r2", 0, 1, 0, "+-/0+");
        runOf("+-/0+", "c9", 0, 1, 0, "+-/0+");
        runOf("+-/0+", "p20", 0, 1, 0, "+-/0+");
        runOf("+-/0+", "e020", 0, 1, 0, "+-/0+");
        runOf("++/-+", "p00", 0, 0, 0, "++/-+");
    }

    private static void wrongRuns() {
        UnimodularTables x = new UnimodularTables();
        Check.script(x, "t");
        check.due("run of no table", x.run(0, 0), HIDDEN);
        check.due("perform of no table", x.perform(0), -1);
        check.due("no status", x.status(0), 0);
        Check.table(x, "+");
        int[] wrong = {1, 4, -1, LEAST, GREATEST};
        for (int script : wrong) {
            check.due("run(" + script + ", 0)", x.run(script, 0), HIDDEN);
            check.due("perform(" + script + ")", x.perform(script), -1);
        }
        int[] wrongWhat = {2, -1, LEAST, GREATEST};
        for (int what : wrongWhat) {
            check.due("run(0, " + what + ")", x.run(0, what), HIDDEN);
        }
        check.due("no act", x.count(5), 0);
    }

    private static void performing() {
        UnimodularTables x = Check.of("++/-+");
        int number = Check.script(x, "e10+;t");
        check.due("total", x.total(), 0);
        check.due("run", x.run(number, 1), 1);
        check.due("total behind run", x.total(), 0);
        check.due("witness behind run", x.witness(3), 2);
        check.due("perform", x.perform(number), 2);
        check.due("total behind perform", x.total(), 1);
        check.due("undo", x.undo(), 1);
        check.due("undo", x.undo(), 0);
        check.due("total behind undo", x.total(), 0);
    }

    private static void manySteps() {
        UnimodularTables x = Check.of("+-/0+");
        int number = Check.script(x, "r0;r0;r0;r0;r0;r0;r0;r0;r0;r0;r0;r1");
        for (int i = 1; i <= 5; i++) {
            check.due("perform", x.perform(number), 12);
            check.due("acts", x.count(5), Math.min(40, 12 * i));
        }
        check.showsAs("sixty acts", x, "-+/0-");
    }

    private static void drawsOf(String table, int n, long seed, int acts, String then) {
        UnimodularTables x = Check.of(table);
        check.due("draws(" + n + ", " + seed + ")", x.draws(n, seed), acts);
        check.showsAs("draws(" + n + ", " + seed + ")", x, then);
        check.due("acts", x.count(5), acts);
        for (int what = 0; what < 4; what++) {
            check.due("no status", x.status(what), 0);
        }
        for (int left = acts - 1; left >= 0; left--) {
            check.due("undo of draws", x.undo(), left);
        }
        check.showsAs("all undone", x, table);
    }

    private static void drawing() {
        // What each seed draws for two rows and three columns was reckoned apart:
        // e010 e12+ r1 c0 r1 r0 c0 e11+
        drawsOf("+-0/0+-", 8, 0, 7, "-00/0++");
        drawsOf("+-0/0+-", 1, 0, 1, "+00/0+-");
        // x10 r0 e01- p11 r0 x00 e000 c2
        drawsOf("+-0/0+-", 8, 1, 6, "0-+/-+0");
        drawsOf("+-0/0+-", 4, 1, 3, "-++/-+0");
        // p00 x11 r0 y22 x00 r0 r1 x10
        drawsOf("+-0/0+-", 8, 2, 5, "0-+/--0");
        // p11 x01 y21 x10 x00 p11 ..
        drawsOf("+-0/0+-", 3, -1, 3, "0--/+--");
        UnimodularTables x = Check.of("+-0/0+-");
        x.draws(8, 0);
        x.draws(8, 0);
        UnimodularTables y = Check.of("-00/0++");
        y.draws(8, 0);
        check.showsAs("each call begins with its seed", x, Check.show(y));
        UnimodularTables one = Check.of("+");
        check.due("draws(30)", one.draws(30, 5) > 0, true);
    }

    private static void wrongDraws() {
        UnimodularTables none = new UnimodularTables();
        check.due("draws of no table", none.draws(1, 1), -1);
        check.due("no status", none.status(0), 0);
        UnimodularTables x = Check.of("+-0/0+-");
        int[] wrong = {0, 31, -1, LEAST, GREATEST};
        for (int n : wrong) {
            check.due("draws(" + n + ")", x.draws(n, 0), -1);
        }
        check.showsAs("refused", x, "+-0/0+-");
        check.due("acts", x.count(5), 0);
    }
}
