/** Promises 26, 32 and 34: block, pack, cycle. */
public final class GraphsTest {
    private static final int LEAST = Integer.MIN_VALUE;
    private static final int GREATEST = Integer.MAX_VALUE;
    private static final Check check = new Check();

    public static void main(String[] args) {
        blocks();
        packs();
        covers();
        cycles();
        oneBehindTheOther();
        check.finish();
    }

    private static void blocksOf(String text, int[]... want) {
        UnimodularTables x = Check.of(text);
        check.due("blocks of " + text, x.block(-1, 0), want.length);
        check.due("blocks of " + text + ", any what", x.block(-1, GREATEST), want.length);
        check.due("blocks of " + text + ", any what", x.block(-1, LEAST), want.length);
        for (int i = 0; i < want.length; i++) {
            check.due("block(" + i + ", 0) of " + text, x.block(i, 0), want[i][0]);
            check.due("block(" + i + ", 1) of " + text, x.block(i, 1), want[i][1]);
        }
        int[] wrong = {want.length, -2, LEAST, GREATEST};
        for (int i : wrong) {
            check.due("block(" + i + ", 0) of " + text, x.block(i, 0), -1);
        }
        int[] wrongWhat = {2, -1, LEAST, GREATEST};
        for (int what : wrongWhat) {
            check.due("block(0, " + what + ") of " + text, x.block(0, what), -1);
        }
    }

    private static void blocks() {
        blocksOf("+", new int[] {1, 1});
        blocksOf("0", new int[] {1, 0}, new int[] {0, 1});
        blocksOf("0+00/0000/+0-0", new int[] {1, 2}, new int[] {2, 0}, new int[] {4, 5}, new int[] {0, 8});
        blocksOf("00-0/+000/0-0+/+000", new int[] {1, 4}, new int[] {10, 1}, new int[] {4, 10});
        blocksOf("00/00", new int[] {1, 0}, new int[] {2, 0}, new int[] {0, 1}, new int[] {0, 2});
        // One long chain, joined from the far end.
        blocksOf("0000+-/000-+0/00++00/0-+000/-+0000/-00000", new int[] {63, 63});
        blocksOf("000000/000000/000000/000000/000000/000000", new int[] {1, 0}, new int[] {2, 0}, new int[] {4, 0},
                new int[] {8, 0}, new int[] {16, 0}, new int[] {32, 0}, new int[] {0, 1}, new int[] {0, 2}, new int[] {0, 4},
                new int[] {0, 8}, new int[] {0, 16}, new int[] {0, 32});
        check.due("blocks of no table", new UnimodularTables().block(-1, 0), -1);
        check.due("block of no table", new UnimodularTables().block(0, 0), -1);
    }

    private static void packOf(String text, int pack, int cover) {
        UnimodularTables x = Check.of(text);
        check.due("pack(0) of " + text, x.pack(0), pack);
        check.due("pack(1) of " + text, x.pack(1), cover);
    }

    private static void packs() {
        packOf("+", 1, 1);
        packOf("+00/0-0/00+", 7, 7);
        packOf("++0/0+-/-0+", 1, 3);
        packOf("++00/00-+", 5, 3);
        // The first column meets all others, which are apart.
        packOf("+-00/+0-0/-00+", 14, 7);
        packOf("0+0/0-0", 7, 1);
        packOf("000/000", 7, 0);
        packOf("+-0+-0", 37, 1);
    }

    private static void covers() {
        packOf("+000/0+00/++++", 1, 4);
        packOf("++00/0++0/00++/+00+", 5, 5);
        packOf("+00/+00/0+0/0+0", 7, 5);
        packOf("+0/-0/++/0+", 1, 4);
        packOf("+00000/-+0000/0-+000/00-+00/000-+0/0000-+", 21, 42);
        UnimodularTables x = Check.of("+");
        int[] wrong = {2, -1, LEAST, GREATEST};
        for (int what : wrong) {
            check.due("pack(" + what + ")", x.pack(what), -1);
        }
        check.due("pack of no table", new UnimodularTables().pack(0), -1);
        check.due("cover of no table", new UnimodularTables().pack(1), -1);
    }

    private static void oneBehindTheOther() {
        UnimodularTables x = Check.of("++++/++++");
        check.due("cycle", x.cycle(), 4);
        check.due("blocks", x.block(-1, 0), 1);
        Check.table(x, "+0/0+/00");
        check.due("cycle of the next table", x.cycle(), -1);
        check.due("blocks of the next table", x.block(-1, 0), 3);
        check.due("pack of the next table", x.pack(0), 3);
        check.due("cover of the next table", x.pack(1), 3);
        x.deal(7, 1, 0);
        check.due("cover behind an act", x.pack(1), 1);
        x.undo();
        check.due("cover behind undo", x.pack(1), 3);
    }

    private static void cycleOf(String text, int want) {
        check.due("cycle of " + text, Check.of(text).cycle(), want);
    }

    private static void cycles() {
        cycleOf("0", -1);
        cycleOf("+-+-+-", -1);
        cycleOf("++/0+", -1);
        cycleOf("++/-+", 4);
        cycleOf("++0/0++/+0+", 6);
        cycleOf("++00/0++0/00++/-00+", 8);
        cycleOf("++000/0++00/00++0/000++/+000+", 10);
        cycleOf("++0000/0++000/00++00/000++0/0000++/+0000+", 12);
        cycleOf("++0000/0++000/00++00/000++0/0000++/00000+", -1);
        cycleOf("++0000/0++000/+0+000/0000++/0000++/000000", 4);
        cycleOf("0000++/0000++/000000/++0000/0++000/+0+000", 4);
        cycleOf("++000/0++00/00++0/000++/+0+0+", 6);
        cycleOf("++++++/++++++/++++++/++++++/++++++/++++++", 4);
        check.due("cycle of no table", new UnimodularTables().cycle(), -1);
    }
}
