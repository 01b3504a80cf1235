import java.util.Random;

/** Runs of random calls, right and wrong ones, on the class and on the plain model of the document. */
public final class RandomRunsTest {
    private static final int RUNS = 400;
    private static final int CALLS = 512;
    private static final int[] WILD = {Integer.MIN_VALUE, -1000000, -2, -1, 6, 7, 9, 31, 32, 33, 64, 1 << 30, Integer.MAX_VALUE};

    private final Check check = new Check();
    private final Random random;
    private final UnimodularTables x = new UnimodularTables();
    private final PlainModel y = new PlainModel();
    private String last = "";

    private RandomRunsTest(long seed) {
        random = new Random(seed);
    }

    public static void main(String[] args) {
        for (int run = 0; run < RUNS; run++) {
            RandomRunsTest test = new RandomRunsTest(run);
            for (int call = 0; call < CALLS && test.check.wrong() == 0; call++) {
                test.call(random(test.random, 46), "run " + run + ", call " + call + ": ");
            }
            if (test.check.wrong() > 0) {
                test.check.finish();
            }
        }
    }

    private static int random(Random random, int n) {
        return random.nextInt(n);
    }

    /** Mostly 0 .. n - 1 and one beyond, now and then something wild. */
    private int arg(int n) {
        int sort = random.nextInt(40);
        if (sort == 0) {
            return WILD[random.nextInt(WILD.length)];
        }
        return sort == 1 ? n : sort == 2 ? -1 : random.nextInt(Math.max(n, 1));
    }

    private int row() {
        return arg(y.count(0));
    }

    private int column() {
        return arg(y.count(1));
    }

    private void due(String call, long got, long want) {
        check.due(last + call, got, want);
    }

    private String randomTable() {
        int rows = 1 + random.nextInt(random.nextBoolean() ? 6 : 4);
        int columns = 1 + random.nextInt(random.nextBoolean() ? 6 : 4);
        String signs = new String[] {"+-0", "+0", "+-00", "+-0000", "+", "+-"}[random.nextInt(6)];
        StringBuilder text = new StringBuilder();
        for (int i = 0; i < rows; i++) {
            text.append(i == 0 ? "" : "/");
            for (int j = 0; j < columns; j++) {
                text.append(signs.charAt(random.nextInt(signs.length())));
            }
        }
        if (random.nextInt(12) == 0) {
            return "+-00-/-+-00/0-+-0/00-+-/-00-+";
        }
        return random.nextInt(12) == 0 ? "+++++/+++00/+0++0/+00++/++00+" : text.toString();
    }

    private String randomScript() {
        StringBuilder text = new StringBuilder();
        int steps = 1 + random.nextInt(random.nextInt(6) == 0 ? 14 : 6);
        for (int i = 0; i < steps; i++) {
            text.append(i == 0 ? "" : ";");
            char kind = "rcxypte".charAt(random.nextInt(7));
            text.append(kind);
            int digits = "t".indexOf(kind) == 0 ? 0 : "rc".indexOf(kind) >= 0 ? 1 : 2;
            for (int j = 0; j < digits; j++) {
                text.append(random.nextInt(random.nextInt(20) == 0 ? 10 : 3));
            }
            text.append(kind == 'e' ? "+-0".substring(random.nextInt(3)).substring(0, 1) : "");
        }
        return text.toString();
    }

    /** Blanks come in, and now and then a sign goes, comes or becomes another. */
    private String spoilt(String text) {
        StringBuilder result = new StringBuilder(text);
        if (random.nextInt(3) == 0) {
            for (int i = random.nextInt(6); i > 0; i--) {
                result.insert(random.nextInt(result.length() + 1), ' ');
            }
        }
        if (random.nextInt(4) == 0) {
            int at = random.nextInt(result.length());
            String signs = "+-0/; rcxypte159a\u00e9\t";
            char sign = signs.charAt(random.nextInt(signs.length()));
            switch (random.nextInt(3)) {
                case 0: result.deleteCharAt(at); break;
                case 1: result.setCharAt(at, sign); break;
                default: result.insert(at, sign); break;
            }
        }
        return result.toString();
    }

    private void read(int sort) {
        if (random.nextInt(10) != 0) {
            due("end", x.end(0) ? 1 : 0, y.end(0) ? 1 : 0);
        }
        String text = spoilt(sort == 0 ? randomTable() : randomScript());
        for (int i = 0; i < text.length(); i += 20) {
            int[] w = Check.words(text.substring(i, Math.min(i + 20, text.length())));
            due("feed " + text, x.feed(w[0], w[1], w[2], w[3], w[4]), y.feed(w));
        }
        due("fault of " + text, x.fault(sort), y.fault(sort));
        due("fault of " + text, x.fault(1 - sort), y.fault(1 - sort));
        due("text of " + text, x.text(sort), y.text(sort));
    }

    private void call(int kind, String where) {
        last = where + (x.count(0) > 0 ? Check.show(x) : "no table") + ": ";
        if (kind < 23) {
            changing(kind);
        } else {
            asking(kind);
        }
        for (int what = 0; what < 7; what++) {
            due("count " + what, x.count(what), y.count(what));
        }
        for (int what = 0; what < 4; what++) {
            due("status " + what, x.status(what), y.status(what));
        }
        for (int i = 0; i < y.count(0) * y.count(1); i++) {
            int r = i / y.count(1);
            int c = i % y.count(1);
            due("entry " + r + " " + c, Check.entry(x, r, c), y.entry(r, c));
        }
    }

    private void changing(int kind) {
        int a = row();
        int b = column();
        int v = arg(3) - 1;
        switch (kind) {
            case 0: case 1: read(0); break;
            case 2: if (random.nextInt(4) == 0) { read(1); } break;
            case 3: int n = arg(y.count(4)); due("end " + n, x.end(n) ? 1 : 0, y.end(n) ? 1 : 0); break;
            case 4:
                int[] w = random.ints(5).toArray();
                due("feed", x.feed(w[0], w[1], w[2], w[3], w[4]), y.feed(w));
                break;
            case 5: int s = arg(2); due("text " + s, x.text(s), y.text(s)); break;
            case 6: case 7: case 8: due("change " + a + " " + b + " " + v, x.change(a, b, v), y.change(a, b, v)); break;
            case 9: case 10: case 11: case 12:
                int d = arg(6);
                int p = d == 1 || d == 3 ? column() : row();
                int q = d == 2 ? row() : column();
                due("deal " + d + " " + p + " " + q, x.deal(d, p, q), y.deal(d, p, q));
                break;
            case 13:
                int e = 6 + arg(2);
                due("deal " + e + " " + a, x.deal(e, a, b), y.deal(e, a, b));
                break;
            case 14: if (random.nextInt(3) == 0) { due("keep", x.keep(), y.keep()); } break;
            case 15: case 16: case 17:
                int f = arg(y.count(2));
                int g = arg(y.count(2));
                int h = arg(2);
                due("join " + f + " " + g + " " + h, x.join(f, g, h), y.join(f, g, h));
                break;
            case 18: case 19: due("undo", x.undo(), y.undo()); break;
            case 20: int i = arg(y.count(3)); due("perform " + i, x.perform(i), y.perform(i)); break;
            case 21:
                int m = arg(31);
                long seed = random.nextLong();
                due("draws " + m + " " + seed, x.draws(m, seed), y.draws(m, seed));
                break;
            default:
                if (random.nextInt(4) == 0) {
                    due("image", x.image(), y.image());
                } else {
                    due("back", x.back(), y.back());
                }
        }
    }

    private void asking(int kind) {
        int a = row();
        int b = column();
        switch (kind) {
            case 23: due("entry " + a + " " + b, Check.entry(x, a, b), y.entry(a, b)); break;
            case 24: int k = arg(y.count(2)); due("kept " + k, x.kept(k, a, b), y.kept(k, a, b)); break;
            case 25:
                int r = arg(1 << y.count(0));
                int c = arg(1 << y.count(1));
                due("det " + r + " " + c, x.det(r, c), y.det(r, c));
                break;
            case 26: int s = arg(7); int w = arg(3); due("squares " + s + " " + w, x.squares(s, w), y.squares(s, w)); break;
            case 27: due("total", x.total(), y.total()); break;
            case 28: int h = arg(4); due("witness " + h, x.witness(h), y.witness(h)); break;
            case 29: int n = arg(1 << y.count(0)); due("halves " + n, x.halves(n), y.halves(n)); break;
            case 30: due("unhalved", x.unhalved(), y.unhalved()); break;
            case 31: case 32: askTree(arg(2)); break;
            case 33: due("signed " + a + " " + b, x.signed(a, b), y.signed(a, b)); break;
            case 34: due("regular", x.regular(), y.regular()); break;
            case 35: int l = arg(y.count(2)); due("scaled " + l, x.scaled(l), y.scaled(l)); break;
            case 36: due("special", x.special(), y.special()); break;
            case 37: int i = arg(4) - 1; int o = arg(2); due("block " + i + " " + o, x.block(i, o), y.block(i, o)); break;
            case 38: int m = arg(4); due("rank " + m, x.rank(m), y.rank(m)); break;
            case 39: due("bases", x.bases(), y.bases()); break;
            case 40: due("mends", x.mends(), y.mends()); break;
            case 41: due("fragile", x.fragile(), y.fragile()); break;
            case 42: due("fills " + a + " " + b, x.fills(a, b), y.fills(a, b)); break;
            case 43: int p = arg(2); due("pack " + p, x.pack(p), y.pack(p)); break;
            case 44: due("adjoint " + a + " " + b, x.adjoint(a, b), y.adjoint(a, b)); due("cycle", x.cycle(), y.cycle()); break;
            default: askScript(arg(y.count(3)));
        }
    }

    private void askScript(int script) {
        int i = arg(4);
        int what = arg(4);
        due("step " + script + " " + i + " " + what, x.step(script, i, what), y.step(script, i, what));
        what = arg(2);
        due("run " + script + " " + what, x.run(script, what), y.run(script, what));
    }

    private void askTree(int side) {
        int arcs = side == 1 ? y.count(1) : y.count(0);
        // The plain search takes too long for six arcs, if there is no tree.
        if (arcs == 6 && y.total() == 0 || arcs == 6 && random.nextInt(10) > 0) {
            return;
        }
        due("network " + side, x.network(side), y.network(side));
        int a = arg(arcs);
        int what = arg(2);
        due("arc " + side + " " + a + " " + what, x.arc(side, a, what), y.arc(side, a, what));
        int c = side == 1 ? row() : column();
        for (int i = -1; i < 3; i++) {
            due("way " + side + " " + c + " " + i, x.way(side, c, i), y.way(side, c, i));
        }
    }
}
