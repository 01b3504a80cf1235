import java.util.List;
import java.util.function.Supplier;

/** The edges of promises 1 to 12, from a new object to undo. */
public final class Promises01To12EdgesTest {
    private static final int NONE = UnimodularTables.NONE;
    private static final int HIDDEN = UnimodularTables.HIDDEN;
    private static final int[] FAR = {States.LEAST, -1000000, -2, -1, 6, 7, 64, States.GREATEST};
    private static final List<Supplier<UnimodularTables>> STATES = List.of(UnimodularTables::new, States::bare, States::busy, States::full);
    private static final Check check = new Check();

    public static void main(String[] args) {
        check.runAll(Promises01To12EdgesTest.class);
    }

    private static int feed(UnimodularTables x, String text) {
        int[] w = Check.words(text);
        return x.feed(w[0], w[1], w[2], w[3], w[4]);
    }

    private static UnimodularTables withTape(int bytes) {
        UnimodularTables x = States.busy();
        Check.tape(x, "+" + " ".repeat(bytes - 1));
        return x;
    }

    // ---- 1: a new object

    static void promise01NewObjectHasNoTable() {
        UnimodularTables x = new UnimodularTables();
        for (int what = 0; what < 7; what++) {
            check.due("count(" + what + ")", x.count(what), 0);
        }
        for (int what = 0; what < 4; what++) {
            check.due("status(" + what + ")", x.status(what), 0);
        }
        check.due("entry", Check.entry(x, 0, 0), Check.THROWN);
        check.due("fault(0)", x.fault(0), 0);
        check.due("fault(1)", x.fault(1), 0);
        check.due("text(0)", x.text(0), NONE);
        check.due("text(1)", x.text(1), NONE);
        check.due("end(0)", x.end(0), true);
        check.due("undo", x.undo(), NONE);
        check.due("back", x.back(), NONE);
        check.due("image", x.image(), NONE);
        check.due("keep", x.keep(), NONE);
        check.due("kept", x.kept(0, 0, 0), HIDDEN);
        check.due("step", x.step(0, 0, 0), HIDDEN);
    }

    static void promise01ObjectsShareNothing() {
        UnimodularTables busy = States.busy();
        UnimodularTables x = new UnimodularTables();
        check.dueText("a new one beside a busy one", Seen.of(x), Seen.of(new UnimodularTables()));
        Check.table(x, "-");
        check.dueText("a busy one beside a new one", Seen.of(busy), Seen.of(States.busy()));
    }

    // ---- 2: feed

    static void promise02FeedHighestByteFirst() {
        UnimodularTables x = new UnimodularTables();
        check.due("feed", x.feed(0x2B2D302F, 0x302B2D2F, 0x2D302B2F, 0x2B2B2B2F, 0x30303020), 20);
        x.text(0);
        check.showsAs("feed", x, "+-0/0+-/-0+/+++/000");
    }

    static void promise02FeedLeavesNoughtsOut() {
        check.due("noughts alone", new UnimodularTables().feed(0, 0, 0, 0, 0), 0);
        for (int place = 0; place < 20; place++) {
            int[] w = new int[5];
            w[place / 4] = 0x2B << (24 - 8 * (place % 4));
            UnimodularTables x = new UnimodularTables();
            check.due("one byte at place " + place, x.feed(w[0], w[1], w[2], w[3], w[4]), 1);
            check.due("it is the table", x.text(0), 1);
            check.showsAs("it is the table", x, "+");
            for (int i = 0; i < 5; i++) {
                w[i] = 0x20202020;
            }
            w[place / 4] &= ~(0xFF << (24 - 8 * (place % 4)));
            check.due("all but place " + place, x.feed(w[0], w[1], w[2], w[3], w[4]), 19);
        }
    }

    static void promise02FeedTakesAllOtherBytes() {
        UnimodularTables x = new UnimodularTables();
        check.due("bytes of 255", x.feed(-1, -1, -1, -1, -1), 20);
        check.due("bytes of 128", x.feed(0x80808080, 0x80808080, 0x80808080, 0x80808080, 0x80808080), 40);
        check.due("the highest bit alone", x.feed(States.LEAST, 0, 0, 0, 0), 41);
        check.due("bytes of 1", x.feed(0x01010101, 0, 0, 0, 1), 46);
    }

    static void promise02FeedUpTo240() {
        UnimodularTables x = new UnimodularTables();
        for (int i = 1; i <= 12; i++) {
            check.due("feed", x.feed(-1, -1, -1, -1, -1), 20 * i);
        }
        check.due("the tape", x.count(4), 240);
        check.due("none more", x.feed(0, 0, 0, 0, 0), 240);
        for (int bytes = 221; bytes <= 240; bytes++) {
            UnimodularTables y = withTape(bytes);
            check.due("to 240", feed(y, " ".repeat(240 - bytes)), 240);
            y.end(1);
            check.due("from 1 again", feed(y, " ".repeat(20)), 21);
        }
    }

    static void promise02FeedBeyond240IsRefused() {
        for (int bytes = 221; bytes <= 240; bytes++) {
            int there = bytes;
            check.refused("to 241", () -> withTape(there), x -> feed(x, "-".repeat(241 - there)), NONE);
            check.refused("twenty more", () -> withTape(there), x -> feed(x, "-".repeat(20)), NONE);
        }
        check.refused("one more than 240", States::full, x -> x.feed(0, 0, 0, 0, 1), NONE);
        check.due("twenty to 240", feed(withTape(220), " ".repeat(20)), 240);
    }

    // ---- 3: end

    static void promise03EndBetweenNoneAndAll() {
        for (int n = 0; n <= 5; n++) {
            UnimodularTables x = new UnimodularTables();
            feed(x, "+-0+-");
            check.due("end(" + n + ")", x.end(n), true);
            check.due("the tape", x.count(4), n);
            check.due("what comes then comes behind", feed(x, "00"), n + 2);
            x.text(0);
            check.showsAs("end(" + n + ")", x, n < 5 ? "+-0+-".substring(0, n) + "00" : "");
        }
        check.due("end(0) of none", new UnimodularTables().end(0), true);
        check.due("end(240)", States.full().end(240), true);
    }

    static void promise03EndBeyondIsRefused() {
        for (Supplier<UnimodularTables> state : STATES) {
            int more = state.get().count(4) + 1;
            check.refused("one more than there are", state, x -> x.end(more) ? 1 : 0, 0);
            check.refused("end(-1)", state, x -> x.end(-1) ? 1 : 0, 0);
            check.refused("the least", state, x -> x.end(States.LEAST) ? 1 : 0, 0);
            check.refused("the greatest", state, x -> x.end(States.GREATEST) ? 1 : 0, 0);
        }
        UnimodularTables x = new UnimodularTables();
        feed(x, "+-0");
        x.end(2);
        check.due("what is gone does not come again", x.end(3), false);
    }

    // ---- 4: fault

    static void promise04FaultOfNoSuchSort() {
        for (Supplier<UnimodularTables> state : STATES) {
            for (int sort : new int[] {States.LEAST, -2, -1, 2, 3, States.GREATEST}) {
                check.refused("fault(" + sort + ")", state, x -> x.fault(sort), -2);
            }
        }
    }

    static void promise04FaultChangesNothing() {
        check.refused("fault(0), a table", States::busy, x -> x.fault(0), NONE);
        check.refused("fault(1), no script", States::busy, x -> x.fault(1), 0);
        check.refused("fault(0) with all places taken", States::full, x -> x.fault(0), NONE);
        check.refused("fault(1) with all places taken", States::full, x -> x.fault(1), 239);
    }

    static void promise04FaultOfAnEmptyTape() {
        UnimodularTables x = States.busy();
        x.end(0);
        check.due("as a table", x.fault(0), 0);
        check.due("as a script", x.fault(1), 0);
    }

    static void promise04FaultOfAFullTape() {
        UnimodularTables x = new UnimodularTables();
        Check.tape(x, "+/+/+" + " ".repeat(235));
        check.due("a table in 240 bytes", x.fault(0), NONE);
        Check.tape(x, "+/+/" + " ".repeat(236));
        check.due("it ends too early", x.fault(0), 240);
        Check.tape(x, "+/+/+" + " ".repeat(234) + "+");
        check.due("at the last byte", x.fault(0), 239);
        Check.tape(x, " ".repeat(236) + "e00-");
        check.due("a script in 240 bytes", x.fault(1), NONE);
        Check.tape(x, " ".repeat(237) + "e00");
        check.due("it ends too early", x.fault(1), 240);
    }

    // ---- 5: text

    static void promise05TextTellsRows() {
        for (int rows = 1; rows <= 6; rows++) {
            UnimodularTables x = new UnimodularTables();
            Check.tape(x, "/+-0+-0".repeat(rows).substring(1));
            check.due("text(0)", x.text(0), rows);
            check.due("the tape is empty", x.count(4), 0);
            check.due("and no table any more", x.text(0), NONE);
        }
    }

    static void promise05TextForgetsActsAndKeepsTheRest() {
        UnimodularTables x = States.busy();
        int[] statuses = {x.status(0), x.status(1), x.status(2), x.status(3)};
        check.due("text", x.text(0), 1);
        check.showsAs("text", x, "+-");
        check.due("acts", x.count(5), 0);
        check.due("undo", x.undo(), NONE);
        check.due("kept ones", x.count(2), 3);
        check.due("a kept one", x.kept(2, 1, 2), 1);
        check.due("scripts", x.count(3), 1);
        check.due("a step", x.step(0, 2, 3), -1);
        for (int what = 0; what < 4; what++) {
            check.due("status(" + what + ")", x.status(what), statuses[what]);
        }
        check.due("the image", x.back(), 2);
        check.showsAs("back", x, "++/0+");
    }

    static void promise05TextOfAScriptLeavesTheTable() {
        UnimodularTables x = States.busy();
        UnimodularTables same = States.busy();
        for (int number = 1; number < 4; number++) {
            Check.tape(x, "t;r" + number);
            check.due("text(1)", x.text(1), number);
            check.due("the tape is empty", x.count(4), 0);
            check.due("its step", x.step(number, 1, 1), number);
        }
        check.showsAs("scripts", x, Check.show(same));
        check.due("acts", x.count(5), same.count(5));
        check.due("undo", x.undo(), same.undo());
        check.showsAs("undo", x, Check.show(same));
    }

    static void promise05TextWithAFaultIsRefused() {
        for (String text : List.of("", " ", "+/", "++/+", "+++++++", "a", "+/+/+/+/+/+/+", "r0")) {
            check.refused("text(0) of " + text, () -> taped(text), x -> x.text(0), NONE);
        }
        for (String text : List.of("", " ", "t;", "r", "x0", "e00", "t;t;t;t;t;t;t;t;t;t;t;t;t", "+")) {
            check.refused("text(1) of " + text, () -> taped(text), x -> x.text(1), NONE);
        }
    }

    private static UnimodularTables taped(String text) {
        UnimodularTables x = States.busy();
        Check.tape(x, text);
        return x;
    }

    static void promise05TextOfNoSuchSortIsRefused() {
        for (Supplier<UnimodularTables> state : STATES) {
            for (int sort : new int[] {States.LEAST, -2, -1, 2, States.GREATEST}) {
                check.refused("text(" + sort + ")", state, x -> x.text(sort), NONE);
            }
        }
    }

    static void promise05TextOfAFifthScriptIsRefused() {
        Supplier<UnimodularTables> full = () -> {
            UnimodularTables x = States.full();
            Check.tape(x, "c1;t");
            return x;
        };
        check.refused("a fifth script", full, x -> x.text(1), NONE);
        check.refused("its fault is none", full, x -> x.fault(1), NONE);
        UnimodularTables x = full.get();
        x.text(1);
        for (int number = 0; number < 4; number++) {
            check.due("the scripts stay", x.step(number, 0, 1), number);
        }
        Check.tape(x, "-/0");
        check.due("a table can come still", x.text(0), 2);
    }

    // ---- 6: entry

    static void promise06EntryAtTheEdges() {
        UnimodularTables x = Check.of("+----0/------/------/------/------/0----+");
        check.due("first", Check.entry(x, 0, 0), 1);
        check.due("last of the first row", Check.entry(x, 0, 5), 0);
        check.due("first of the last row", Check.entry(x, 5, 0), 0);
        check.due("last", Check.entry(x, 5, 5), 1);
        check.due("of one alone", Check.entry(Check.of("-"), 0, 0), -1);
    }

    static void promise06EntryThatIsNotThereThrows() {
        for (int far : new int[] {States.LEAST, -1, 2, 3, 6, States.GREATEST}) {
            check.refused("entry(" + far + ", 0)", States::busy, x -> Check.entry(x, far, 0), Check.THROWN);
            if (far != 2) {
                check.refused("entry(0, " + far + ")", States::busy, x -> Check.entry(x, 0, far), Check.THROWN);
            }
        }
        check.due("the last row", Check.entry(States.busy(), 1, 0), 0);
        check.due("the last column", Check.entry(States.busy(), 0, 2), -1);
        check.refused("beyond both", States::busy, x -> Check.entry(x, 2, 3), Check.THROWN);
        check.refused("where the other way round there is one", States::busy, x -> Check.entry(x, 2, 1), Check.THROWN);
        check.refused("of no table", States::bare, x -> Check.entry(x, 0, 0), Check.THROWN);
    }

    // ---- 7: change

    static void promise07ChangeTellsWhatItWas() {
        UnimodularTables x = Check.of("+-0/000");
        check.due("it was 1", x.change(0, 0, -1), 1);
        check.due("it was -1", x.change(0, 1, 0), -1);
        check.due("it was 0", x.change(1, 2, 1), 0);
        check.showsAs("change", x, "-00/00+");
        check.due("each is an act", x.count(5), 3);
    }

    static void promise07ChangeOfNoTable() {
        check.refused("of no table", States::bare, x -> x.change(0, 0, 1), HIDDEN, 0);
        check.refused("of no table, out of bounds", UnimodularTables::new, x -> x.change(9, 9, 9), HIDDEN, 0);
    }

    static void promise07ChangeOutOfBounds() {
        for (int far : FAR) {
            check.refused("row " + far, States::busy, x -> x.change(far, 0, 0), HIDDEN, 1);
            check.refused("column " + far, States::busy, x -> x.change(0, far, 0), HIDDEN, 1);
            check.refused("value " + far, States::busy, x -> x.change(0, 0, far == -1 ? 2 : far), HIDDEN, 1);
        }
        check.refused("the first row beyond", States::busy, x -> x.change(2, 0, 0), HIDDEN, 1);
        check.refused("the first column beyond", States::busy, x -> x.change(0, 3, 0), HIDDEN, 1);
        check.due("the last row and column", States.busy().change(1, 2, 0), -1);
    }

    static void promise07ChangeToWhatItIs() {
        check.refused("1", States::busy, x -> x.change(0, 0, 1), HIDDEN, 2);
        check.refused("0", States::busy, x -> x.change(1, 0, 0), HIDDEN, 2);
        check.refused("-1", States::busy, x -> x.change(1, 2, -1), HIDDEN, 2);
    }

    // ---- 8: deal

    /** The first and the last one that each kind takes, and the first that it refuses on both sides. */
    static void promise08DealTakesTheOnesThereAre() {
        for (int kind = 0; kind <= 7; kind++) {
            if (kind == 5) {
                continue;
            }
            int deal = kind;
            boolean ofColumns = kind == 1 || kind == 3 || kind == 7;
            int last = ofColumns ? 2 : 1;
            int other = kind == 3 ? 1 : 0;
            check.due("deal(" + kind + ") of the first", dealt(deal, 0, kind == 2 || kind == 3 ? 1 : 0), 3);
            if (kind != 4) {
                check.due("deal(" + kind + ") of the last", dealt(deal, last, other), 3);
            }
            for (int far : new int[] {States.LEAST, -1, last + 1, States.GREATEST}) {
                check.refused("deal(" + kind + ", " + far + ")", States::busy, x -> x.deal(deal, far, other), NONE, 1);
                if (kind == 2 || kind == 3 || kind == 4) {
                    int column = far == last + 1 && kind == 4 ? 3 : far;
                    check.refused("deal(" + kind + ", 0, " + column + ")", States::busy, x -> x.deal(deal, 0, column), NONE, 1);
                }
            }
        }
        check.due("turned on the last", Check.of("+0/0+").deal(4, 1, 1), 1);
    }

    private static int dealt(int kind, int a, int b) {
        return States.busy().deal(kind, a, b);
    }

    static void promise08DealWhereTheOtherCountsForNothing() {
        for (int b : FAR) {
            for (int kind : new int[] {0, 1, 6, 7}) {
                UnimodularTables x = States.busy();
                UnimodularTables y = States.busy();
                check.due("deal(" + kind + ", 1, " + b + ")", x.deal(kind, 1, b), 3);
                y.deal(kind, 1, 0);
                check.showsAs("deal(" + kind + ", 1, " + b + ")", x, Check.show(y));
            }
            UnimodularTables x = States.busy();
            check.due("deal(5, " + b + ", " + b + ")", x.deal(5, b, b), 3);
            check.showsAs("deal(5)", x, "+0/+-/--");
        }
    }

    static void promise08DealOfNoSuchKind() {
        for (int kind : new int[] {States.LEAST, -2, -1, 8, 9, States.GREATEST}) {
            check.refused("deal(" + kind + ")", States::busy, x -> x.deal(kind, 0, 1), NONE, 1);
        }
        check.due("the first kind", dealt(0, 0, 0), 3);
        check.due("the last kind", dealt(7, 0, 0), 3);
    }

    static void promise08DealOfNoTable() {
        for (int kind = -1; kind <= 8; kind++) {
            int deal = kind;
            check.refused("deal(" + kind + ")", States::bare, x -> x.deal(deal, 0, 1), NONE, 0);
            check.refused("deal(" + kind + ")", UnimodularTables::new, x -> x.deal(deal, -1, 9), NONE, 0);
        }
    }

    static void promise08DealOfAlikeOnes() {
        check.refused("row 0 with itself", States::busy, x -> x.deal(2, 0, 0), NONE, 2);
        check.refused("row 1 with itself", States::busy, x -> x.deal(2, 1, 1), NONE, 2);
        check.refused("column 0 with itself", States::busy, x -> x.deal(3, 0, 0), NONE, 2);
        check.refused("column 2 with itself", States::busy, x -> x.deal(3, 2, 2), NONE, 2);
        check.refused("one row alone with itself", () -> Check.of("+-"), x -> x.deal(2, 0, 0), NONE, 2);
    }

    static void promise08DealOnANought() {
        check.refused("turned on 0", States::busy, x -> x.deal(4, 1, 0), NONE, 2);
    }

    static void promise08DealThatCantBe() {
        check.refused("turned beyond -1", States::busy, x -> x.deal(4, 0, 1), NONE, 3);
        check.refused("turned beyond 1", () -> Check.of("++/-+"), x -> x.deal(4, 0, 0), NONE, 3);
        // The entries ahead could be turned; the last alone is beyond.
        check.refused("turned beyond 1 at the end", () -> Check.of("+0+/0+0/-0+"), x -> x.deal(4, 0, 0), NONE, 3);
        check.refused("the only row dropped", () -> Check.of("+-"), x -> x.deal(6, 0, 0), NONE, 3);
        check.refused("the only column dropped", () -> Check.of("+/-"), x -> x.deal(7, 0, 0), NONE, 3);
    }

    private static void dealtTo(String from, int kind, int a, int b, String to) {
        UnimodularTables x = Check.of(from);
        check.due("deal(" + kind + ", " + a + ", " + b + ") of " + from, x.deal(kind, a, b), 1);
        check.showsAs("deal(" + kind + ", " + a + ", " + b + ") of " + from, x, to);
    }

    static void promise08DealOfOneRowOrColumn() {
        dealtTo("+", 0, 0, 0, "-");
        dealtTo("+", 1, 0, 0, "-");
        dealtTo("+", 5, 0, 0, "+");
        dealtTo("+/-", 2, 0, 1, "-/+");
        dealtTo("+/-", 2, 1, 0, "-/+");
        dealtTo("+-", 3, 0, 1, "-+");
        dealtTo("+-", 3, 1, 0, "-+");
        dealtTo("+/-", 6, 0, 0, "-");
        dealtTo("+-", 7, 1, 0, "+");
        dealtTo("+-0+-0", 5, 0, 0, "+/-/0/+/-/0");
    }

    static void promise08DealOfTheFirstAndLastOfSix() {
        String six = "+00000/0-0000/00+000/000-00/0000+0/-0000-";
        dealtTo(six, 0, 5, 0, "+00000/0-0000/00+000/000-00/0000+0/+0000+");
        dealtTo(six, 1, 0, 0, "-00000/0-0000/00+000/000-00/0000+0/+0000-");
        dealtTo(six, 2, 0, 5, "-0000-/0-0000/00+000/000-00/0000+0/+00000");
        dealtTo(six, 3, 5, 0, "00000+/0-0000/00+000/000-00/0000+0/-0000-");
        dealtTo(six, 6, 5, 0, "+00000/0-0000/00+000/000-00/0000+0");
        dealtTo(six, 7, 5, 0, "+0000/0-000/00+00/000-0/0000+/-0000");
        // On the last entry, -1: row 5, column 0 times -1; nothing else of its column but itself, which becomes 1.
        dealtTo(six, 4, 5, 5, "+00000/0-0000/00+000/000-00/0000+0/+0000+");
        // On the first of the last row, -1: above it 1 becomes -1, and right above that comes 0 + 1 * 1 * -1.
        dealtTo(six, 4, 5, 0, "-0000-/0-0000/00+000/000-00/0000+0/+0000+");
    }

    static void promise08DealTellsUpToFortyActs() {
        UnimodularTables x = Check.of("+-/0+");
        for (int act = 1; act <= 45; act++) {
            check.due("act " + act, x.deal(5, 0, 0), Math.min(act, 40));
        }
        x.undo();
        check.due("one undone, one more", x.deal(0, 0, 0), 40);
    }

    // ---- 9: keep

    static void promise09KeepOfNoTable() {
        check.refused("keep", UnimodularTables::new, UnimodularTables::keep, NONE);
        check.refused("keep", States::bare, UnimodularTables::keep, NONE);
    }

    static void promise09KeepAFifth() {
        check.due("a fourth", States.busy().keep(), 3);
        check.refused("a fifth", States::full, UnimodularTables::keep, NONE);
    }

    static void promise09KeepAgainBehindBack() {
        UnimodularTables x = Check.of("+");
        x.keep();
        x.image();
        for (int i = 1; i < 4; i++) {
            x.deal(0, 0, 0);
            check.due("keep", x.keep(), i);
        }
        check.due("back", x.back(), 1);
        check.due("the second is there no more", x.kept(1, 0, 0), HIDDEN);
        x.change(0, 0, 0);
        check.due("a new second", x.keep(), 1);
        check.due("it", x.kept(1, 0, 0), 0);
        check.due("the first stays", x.kept(0, 0, 0), 1);
    }

    static void promise09KeepIsNoAct() {
        UnimodularTables x = States.busy();
        x.keep();
        check.due("acts", x.count(5), 2);
        x.undo();
        check.due("kept ones are not undone", x.count(2), 4);
        check.due("nor do they follow", x.kept(3, 0, 2), -1);
    }

    // ---- 10: kept

    static void promise10KeptAtTheEdges() {
        UnimodularTables x = States.busy();
        check.due("the first of the first", x.kept(0, 0, 0), 1);
        check.due("the last of the first", x.kept(0, 1, 2), -1);
        check.due("the last of the second", x.kept(1, 1, 1), 1);
        check.due("a nought of the last", x.kept(2, 1, 0), 0);
        check.due("the fourth of four", States.full().kept(3, 0, 0), -1);
    }

    static void promise10KeptThatIsNotThere() {
        for (int far : FAR) {
            check.refused("kept(" + far + ", 0, 0)", States::busy, x -> x.kept(far, 0, 0), HIDDEN);
            check.refused("kept(0, " + far + ", 0)", States::busy, x -> x.kept(0, far, 0), HIDDEN);
            check.refused("kept(0, 0, " + far + ")", States::busy, x -> x.kept(0, 0, far), HIDDEN);
            check.refused("kept(" + far + ") of four", States::full, x -> x.kept(far, 0, 0), HIDDEN);
        }
        check.refused("the first that is not kept", States::busy, x -> x.kept(3, 0, 0), HIDDEN);
        check.refused("the fifth", States::full, x -> x.kept(4, 0, 0), HIDDEN);
        check.refused("one row more", States::busy, x -> x.kept(0, 2, 0), HIDDEN);
        check.refused("one column more", States::busy, x -> x.kept(0, 0, 3), HIDDEN);
        check.refused("one column more than it, not than the table", States::busy, x -> x.kept(1, 0, 2), HIDDEN);
        check.refused("none kept", States::bare, x -> x.kept(0, 0, 0), HIDDEN);
    }

    // ---- 11: join

    static void promise11JoinOfNoSuchKeptOnes() {
        for (int far : FAR) {
            for (int kind = -1; kind <= 2; kind++) {
                int sum = kind;
                check.refused("join(" + far + ", 0)", States::busy, x -> x.join(far, 0, sum), NONE, 0);
                check.refused("join(0, " + far + ")", States::busy, x -> x.join(0, far, sum), NONE, 0);
            }
        }
        check.refused("the first that is not kept", States::busy, x -> x.join(3, 0, 0), NONE, 0);
        check.refused("the other likewise", States::busy, x -> x.join(0, 3, 0), NONE, 0);
        check.refused("the fifth", States::full, x -> x.join(0, 4, 0), NONE, 0);
        check.refused("none kept", States::bare, x -> x.join(0, 0, 0), NONE, 0);
        check.due("the last kept one", States.busy().join(2, 1, 0), 4);
        check.due("the fourth with itself", States.full().join(3, 3, 0), 2);
    }

    static void promise11JoinOfNoSuchKind() {
        for (int kind : new int[] {States.LEAST, -2, -1, 2, 3, States.GREATEST}) {
            check.refused("join(0, 1, " + kind + ")", States::busy, x -> x.join(0, 1, kind), NONE, 1);
        }
        check.due("the first kind", States.busy().join(0, 1, 0), 4);
        check.due("the last kind", States.busy().join(0, 1, 1), 3);
    }

    static void promise11JoinThatCantBe() {
        String wide = "+-0+-0";
        String high = "+/-/0/+/-/0";
        check.refused("7 columns", () -> States.keeping("+", wide, "+"), x -> x.join(0, 1, 0), NONE, 3);
        check.refused("7 columns", () -> States.keeping("+", wide, "+"), x -> x.join(1, 0, 0), NONE, 3);
        check.refused("7 rows", () -> States.keeping("+", high, "+"), x -> x.join(0, 1, 0), NONE, 3);
        check.refused("linked, 7 columns", () -> States.keeping("+", wide, "++/++"), x -> x.join(0, 1, 1), NONE, 3);
        check.refused("linked, 7 rows", () -> States.keeping("+", high, "++/++"), x -> x.join(1, 0, 1), NONE, 3);
        check.refused("linked, the first of one column", () -> States.keeping("+", "+", "+/+"), x -> x.join(0, 1, 1), NONE, 3);
        check.refused("linked, the second of one row", () -> States.keeping("+", "++", "+"), x -> x.join(0, 1, 1), NONE, 3);
        UnimodularTables x = States.keeping("+", wide, "+/-");
        check.due("linked to 6 columns", x.join(0, 1, 1), 2);
        check.showsAs("linked to 6 columns", x, "+-0+-0/00000-");
        UnimodularTables y = States.keeping("+", "++", high);
        check.due("linked to 6 rows", y.join(0, 1, 1), 6);
        check.showsAs("linked to 6 rows", y, "++/0-/00/0+/0-/00");
    }

    static void promise11JoinIsAnAct() {
        UnimodularTables x = States.busy();
        check.due("joined", x.join(1, 1, 0), 4);
        check.showsAs("joined", x, "++00/0+00/00++/000+");
        check.due("acts", x.count(5), 3);
        check.due("linked", x.join(1, 1, 1), 3);
        check.showsAs("linked", x, "+++/0++/00+");
        check.due("acts", x.count(5), 4);
        check.due("the kept ones stay", x.kept(1, 1, 0), 0);
        check.due("undo", x.undo(), 3);
        check.due("undo", x.undo(), 2);
        check.showsAs("both undone", x, "++-/0--");
    }

    // ---- 12: undo

    static void promise12UndoOfNone() {
        check.refused("of a new one", UnimodularTables::new, UnimodularTables::undo, NONE);
        check.refused("of no table", States::bare, UnimodularTables::undo, NONE);
        check.refused("of a table just read", () -> Check.of("+-"), UnimodularTables::undo, NONE);
        check.refused("behind back", Promises01To12EdgesTest::justBack, UnimodularTables::undo, NONE);
        check.refused("all undone", Promises01To12EdgesTest::allUndone, UnimodularTables::undo, NONE);
    }

    private static UnimodularTables justBack() {
        UnimodularTables x = States.busy();
        x.back();
        return x;
    }

    private static UnimodularTables allUndone() {
        UnimodularTables x = States.busy();
        x.undo();
        x.undo();
        return x;
    }

    static void promise12UndoTellsHowManyAreLeft() {
        UnimodularTables x = States.busy();
        check.due("undo", x.undo(), 1);
        check.showsAs("undo", x, "++0/0--");
        check.due("undo", x.undo(), 0);
        check.showsAs("undo", x, "++0/0++");
        check.due("undo", x.undo(), NONE);
        check.showsAs("no more", x, "++0/0++");
    }

    static void promise12UndoOfFortyAndNoMore() {
        UnimodularTables x = Check.of("+0");
        for (int act = 0; act < 41; act++) {
            x.deal(act == 0 ? 5 : 0, 0, 0);
        }
        for (int left = 39; left >= 0; left--) {
            check.due("undo", x.undo(), left);
        }
        check.due("the 41st from behind", x.undo(), NONE);
        check.showsAs("the first act stays", x, "+/0");
        UnimodularTables forty = Check.of("+0");
        for (int act = 0; act < 40; act++) {
            forty.deal(act == 0 ? 5 : 0, 0, 0);
        }
        for (int left = 39; left >= 0; left--) {
            check.due("undo", forty.undo(), left);
        }
        check.showsAs("all forty", forty, "+0");
    }

    /** The forty places are used again and again, wherever the oldest one stands. */
    static void promise12UndoGoesRound() {
        UnimodularTables x = Check.of("00");
        PlainModel y = new PlainModel();
        y.feed(Check.words("00"));
        y.text(0);
        for (int round = 0; round < 4; round++) {
            for (int act = 0; act < 27 + round; act++) {
                check.due("act", x.change(0, act % 2, (act + round) % 3 - 1), y.change(0, act % 2, (act + round) % 3 - 1));
            }
            for (int act = 0; act < 13; act++) {
                check.due("undo", x.undo(), y.undo());
                check.due("entry", Check.entry(x, 0, 0), y.entry(0, 0));
                check.due("entry", Check.entry(x, 0, 1), y.entry(0, 1));
            }
        }
        for (int act = 0; act < 41; act++) {
            check.due("undo", x.undo(), y.undo());
            check.due("entry", Check.entry(x, 0, 0), y.entry(0, 0));
        }
    }
}
