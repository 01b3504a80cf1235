/** Promises 40 to 42: image, back, count. */
public final class ImagesTest {
    private static final Check check = new Check();

    public static void main(String[] args) {
        noTable();
        imageAndBack();
        keptOnes();
        counts();
        check.finish();
    }

    private static void noTable() {
        UnimodularTables x = new UnimodularTables();
        check.due("image of no table", x.image(), -1);
        check.due("back of no image", x.back(), -1);
        Check.table(x, "+");
        check.due("back of no image", x.back(), -1);
        check.showsAs("back of no image", x, "+");
    }

    private static void imageAndBack() {
        UnimodularTables x = Check.of("+-0/0+-");
        check.due("image", x.image(), 0);
        check.due("image is no act", x.count(5), 0);
        x.deal(5, 0, 0);
        x.deal(6, 0, 0);
        x.change(0, 0, 0);
        x.change(0, 0, 0);
        Check.script(x, "t");
        Check.tape(x, "+-");
        check.due("back", x.back(), 0);
        check.showsAs("back", x, "+-0/0+-");
        check.due("no act can be undone", x.count(5), 0);
        check.due("undo", x.undo(), -1);
        check.due("status stays", x.status(2), 1);
        check.due("the script stays", x.count(3), 1);
        check.due("the tape stays", x.count(4), 2);
        x.change(0, 0, 0);
        check.due("back once more", x.back(), 0);
        check.showsAs("back once more", x, "+-0/0+-");
        x.change(0, 0, 0);
        check.due("another image instead", x.image(), 0);
        check.due("acts can still be undone", x.undo(), 0);
        check.showsAs("undo", x, "+-0/0+-");
        check.due("back", x.back(), 0);
        check.showsAs("back to the other one", x, "0-0/0+-");
        UnimodularTables y = Check.of("++/++");
        y.image();
        y.change(0, 0, -1);
        check.due("total", y.total(), 0);
        y.back();
        check.due("total behind back", y.total(), 1);
        check.due("network behind back", y.network(0), 1);
        check.due("signed behind back", y.signed(0, 0), 1);
    }

    private static void keptOnes() {
        UnimodularTables x = Check.of("+");
        x.keep();
        check.due("image with one kept", x.image(), 1);
        x.deal(0, 0, 0);
        x.keep();
        x.keep();
        x.keep();
        check.due("kept", x.kept(3, 0, 0), -1);
        check.due("back", x.back(), 1);
        check.due("count of kept ones", x.count(2), 1);
        check.due("the one of the image", x.kept(0, 0, 0), 1);
        check.due("gone", x.kept(1, 0, 0), -1000000);
        check.due("gone", x.scaled(1), -1);
        check.due("gone", x.join(0, 1, 0), -1);
        x.change(0, 0, 0);
        check.due("keep", x.keep(), 1);
        check.due("the new one", x.kept(1, 0, 0), 0);
        check.due("image with two kept", x.image(), 2);
        x.keep();
        check.due("back", x.back(), 2);
        check.due("the new one stays", x.kept(1, 0, 0), 0);
        check.due("the first one stays", x.kept(0, 0, 0), 1);
    }

    private static void counts() {
        UnimodularTables x = Check.of("+-0/0+-");
        Check.script(x, "t;t");
        Check.script(x, "t");
        x.keep();
        x.deal(0, 0, 0);
        x.deal(1, 0, 0);
        x.deal(1, 0, 0);
        Check.tape(x, "+ x y");
        int[] want = {2, 3, 1, 2, 5, 3, 4};
        for (int what = 0; what < 7; what++) {
            check.due("count(" + what + ")", x.count(what), want[what]);
        }
        int[] wrong = {7, -1, Integer.MIN_VALUE, Integer.MAX_VALUE};
        for (int what : wrong) {
            check.due("count(" + what + ")", x.count(what), -1000000);
        }
        x.deal(5, 0, 0);
        x.deal(6, 1, 0);
        check.due("rows", x.count(0), 2);
        check.due("columns", x.count(1), 2);
        check.due("not 0", x.count(6), 2);
        check.due("not 0 of noughts", Check.of("000/000").count(6), 0);
    }
}
