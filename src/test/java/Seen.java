/** All that can be seen of an object but STATUS; the telling uses it up, as acts are undone and the image comes back. */
final class Seen {
    private final UnimodularTables x;
    private final StringBuilder told = new StringBuilder();

    private Seen(UnimodularTables x) {
        this.x = x;
    }

    static String of(UnimodularTables x) {
        Seen seen = new Seen(x);
        seen.counts();
        seen.keptOnes();
        seen.scripts();
        seen.found();
        seen.past();
        seen.image();
        seen.tape();
        return seen.told.toString();
    }

    private void tell(String name, long value) {
        told.append(name).append(' ').append(value).append(' ');
    }

    private void table() {
        told.append(Check.show(x)).append(' ');
    }

    private void counts() {
        for (int what = 0; what < 7; what++) {
            tell("count", x.count(what));
        }
        table();
    }

    private void keptOnes() {
        for (int i = 0; i < x.count(2); i++) {
            for (int row = 0; x.kept(i, row, 0) != UnimodularTables.HIDDEN; row++) {
                told.append("kept ");
                for (int column = 0; x.kept(i, row, column) != UnimodularTables.HIDDEN; column++) {
                    told.append("-0+".charAt(x.kept(i, row, column) + 1));
                }
                told.append(' ');
            }
        }
    }

    private void scripts() {
        for (int i = 0; i < x.count(3); i++) {
            for (int step = 0; x.step(i, step, 0) != UnimodularTables.HIDDEN; step++) {
                for (int what = 0; what < 4; what++) {
                    tell("step", x.step(i, step, what));
                }
            }
        }
    }

    /** What the class may have kept of the table from an earlier question. */
    private void found() {
        tell("total", x.total());
        tell("det", x.det(1, 1));
        tell("bases", x.bases());
        tell("tree", x.arc(0, 0, 0));
        tell("cotree", x.arc(1, 0, 0));
        tell("signed", x.signed(0, 0));
    }

    private void past() {
        for (int left = x.undo(); left != UnimodularTables.NONE; left = x.undo()) {
            tell("undo", left);
            table();
        }
    }

    private void image() {
        tell("back", x.back());
        table();
    }

    private void tape() {
        tell("fault", x.fault(1));
        tell("text", x.text(0));
        table();
    }
}
