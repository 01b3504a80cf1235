/** Promises 1 to 5: a new object, feed, end, fault, text. */
public final class TapeTest {
    private static final Check check = new Check();

    public static void main(String[] args) {
        newObject();
        feeding();
        feedingTooMuch();
        ending();
        tableFaults();
        scriptFaults();
        textOfTable();
        textOfScript();
        check.finish();
    }

    private static void newObject() {
        UnimodularTables x = new UnimodularTables();
        for (int what = 0; what < 7; what++) {
            check.due("count(" + what + ") of a new one", x.count(what), 0);
        }
        for (int what = 0; what < 4; what++) {
            check.due("status(" + what + ") of a new one", x.status(what), 0);
        }
        check.due("entry of no table", Check.entry(x, 0, 0), Check.THROWN);
        check.due("total of no table", x.total(), -1);
        check.due("undo of nothing", x.undo(), -1);
        check.due("back of no image", x.back(), -1);
    }

    private static void feeding() {
        UnimodularTables x = new UnimodularTables();
        check.due("feed, noughts between", x.feed(0x2B002F00, 0x30, 0, 0, 0x2B0000), 4);
        check.due("fault of +/0+", x.fault(0), 3);
        check.due("end(3)", x.end(3), true);
        check.due("text of +/0", x.text(0), 2);
        check.showsAs("text", x, "+/0");
        check.due("feed of noughts alone", x.feed(0, 0, 0, 0, 0), 0);
        check.due("feed of bytes above 127", x.feed(-1, -1, -1, -1, -1), 20);
        check.due("fault at a byte of 255", x.fault(0), 0);
        check.due("fault at a byte of 255", x.fault(1), 0);
        x.end(0);
        check.due("feed, the order of all five", x.feed(0x2B2D302F, 0x2D2B2B2F, 0x3030302F, 0x2B2B2B2F, 0x2D2D2D00), 19);
        check.due("text", x.text(0), 5);
        check.showsAs("text", x, "+-0/-++/000/+++/---");
    }

    private static void feedingTooMuch() {
        UnimodularTables x = new UnimodularTables();
        for (int i = 1; i <= 11; i++) {
            check.due("feed", x.feed(0x20202020, 0x20202020, 0x20202020, 0x20202020, 0x20202020), 20 * i);
        }
        check.due("feed to 239", x.feed(0x20202020, 0x20202020, 0x20202020, 0x20202020, 0x00202020), 239);
        check.due("feed beyond 240", x.feed(0x2B2B0000, 0, 0, 0, 0), -1);
        check.due("count of the tape", x.count(4), 239);
        check.due("fault of blanks alone", x.fault(0), 239);
        check.due("feed to 240", x.feed(0, 0, 0, 0, 0x2B), 240);
        check.due("feed of nothing at 240", x.feed(0, 0, 0, 0, 0), 240);
        check.due("feed at 240", x.feed(0, 0, 1, 0, 0), -1);
        for (int i = 0; i < 5; i++) {
            int[] w = new int[5];
            w[i] = 0x2B2B2B2B;
            w[(i + 1) % 5] = 0x2B;
            x.end(236);
            check.due("five bytes more than 236", x.feed(w[0], w[1], w[2], w[3], w[4]), -1);
            w[(i + 1) % 5] = 0;
            check.due("four bytes more than 236", x.feed(w[0], w[1], w[2], w[3], w[4]), 240);
        }
        x.end(236);
        check.due("blanks, and + at the end", x.feed(0x20000020, 0, 0x20, 0, 0x2B00), 240);
        check.due("text of 239 blanks and +", x.text(0), 1);
        check.showsAs("text", x, "+");
        check.due("the tape is empty then", x.count(4), 0);
    }

    private static void ending() {
        UnimodularTables x = new UnimodularTables();
        check.due("end(0) of nothing", x.end(0), true);
        check.due("end(1) of nothing", x.end(1), false);
        Check.tape(x, "+-0/0");
        check.due("end(6)", x.end(6), false);
        check.due("end(-1)", x.end(-1), false);
        check.due("end of the least", x.end(Integer.MIN_VALUE), false);
        check.due("end of the greatest", x.end(Integer.MAX_VALUE), false);
        check.due("count behind false ones", x.count(4), 5);
        check.due("end(5)", x.end(5), true);
        check.due("count", x.count(4), 5);
        check.due("end(3)", x.end(3), true);
        check.due("count", x.count(4), 3);
        check.due("end(4), gone", x.end(4), false);
        check.due("text", x.text(0), 1);
        check.showsAs("the first three bytes", x, "+-0");
    }

    private static void faultOf(int sort, String text, int want) {
        UnimodularTables x = new UnimodularTables();
        Check.tape(x, text);
        check.due("fault(" + sort + ") of '" + text + "'", x.fault(sort), want);
        check.due("fault(" + sort + ") of '" + text + "' once more", x.fault(sort), want);
        check.due("text(" + sort + ") of '" + text + "'", x.text(sort) >= 0, want == -1);
        check.due("the tape behind it", x.count(4), want == -1 ? 0 : text.length());
    }

    private static void tableFaults() {
        String[] right = {"+", "-", "0", "+-0+-0", "+/-/0/+/-/0", "  + - / 0 + ", "++++++/++++++/++++++/++++++/++++++/++++++",
            "+ + + + + + / - - - - - - "};
        for (String text : right) {
            faultOf(0, text, -1);
        }
        faultOf(0, "", 0);
        faultOf(0, "   ", 3);
        faultOf(0, "/", 0);
        faultOf(0, " /", 1);
        faultOf(0, "+/", 2);
        faultOf(0, "+/ ", 3);
        faultOf(0, "++/+", 4);
        faultOf(0, "++/+ ", 5);
        faultOf(0, "++/+/", 4);
        faultOf(0, "++/ /", 4);
        faultOf(0, "++//++", 3);
        faultOf(0, "++/+++", 5);
        faultOf(0, "++/++ +", 6);
        faultOf(0, "+++++++", 6);
        faultOf(0, "++++++ 0", 7);
        faultOf(0, "++++++/+++++++", 13);
        faultOf(0, "+/+/+/+/+/+/+", 11);
        faultOf(0, "+/+/+/+/+/+ /", 12);
        faultOf(0, "+/+/+/+/+/+x", 11);
        faultOf(0, "+/+/+/+/+/", 10);
        faultOf(0, "+1", 1);
        faultOf(0, "+;", 1);
        faultOf(0, "+\t", 1);
        faultOf(0, "x", 0);
        faultOf(0, "+\u00ab", 1);
        faultOf(0, "+\u00ff-", 1);
        UnimodularTables x = new UnimodularTables();
        int[] wrongSorts = {2, -1, 3, Integer.MIN_VALUE, Integer.MAX_VALUE};
        for (int sort : wrongSorts) {
            check.due("fault(" + sort + ")", x.fault(sort), -2);
            check.due("text(" + sort + ")", x.text(sort), -1);
        }
    }

    private static void scriptFaults() {
        String[] right = {"t", "r0", "c9", "x00", "y98", "p12", "e77+", "e00-", "e010", " e 0 0 - ; t ", "r 9 ; x 1 2",
            "t;t;t;t;t;t;t;t;t;t;t;t"};
        for (String text : right) {
            faultOf(1, text, -1);
        }
        faultOf(1, "", 0);
        faultOf(1, "  ", 2);
        faultOf(1, ";", 0);
        faultOf(1, "t;", 2);
        faultOf(1, "t; ", 3);
        faultOf(1, "t;;t", 2);
        faultOf(1, "tt", 1);
        faultOf(1, "t0", 1);
        faultOf(1, "r", 1);
        faultOf(1, "r ", 2);
        faultOf(1, "ra", 1);
        faultOf(1, "r+", 1);
        faultOf(1, "r00", 2);
        faultOf(1, "r;", 1);
        faultOf(1, "c", 1);
        faultOf(1, "c1c1", 2);
        faultOf(1, "x", 1);
        faultOf(1, "x1", 2);
        faultOf(1, "x1;", 2);
        faultOf(1, "x123", 3);
        faultOf(1, "y1:", 2);
        faultOf(1, "y1/", 2);
        faultOf(1, "p0", 2);
        faultOf(1, "p00+", 3);
        faultOf(1, "e", 1);
        faultOf(1, "e00", 3);
        faultOf(1, "e001", 3);
        faultOf(1, "e00;", 3);
        faultOf(1, "e000t", 4);
        faultOf(1, "e0+", 2);
        faultOf(1, "T", 0);
        faultOf(1, "z", 0);
        faultOf(1, "+", 0);
        faultOf(1, "t;r0;\u00f2", 5);
        faultOf(1, "t;t;t;t;t;t;t;t;t;t;t;t;", 23);
        faultOf(1, "t;t;t;t;t;t;t;t;t;t;t;t ;t", 24);
        faultOf(1, "t;t;t;t;t;t;t;t;t;t;t;tt", 23);
    }

    private static void textOfTable() {
        UnimodularTables x = Check.of("+-/0+");
        int number = Check.script(x, "r0;t");
        x.keep();
        x.image();
        x.deal(0, 0, 0);
        x.deal(2, 1, 1);
        Check.tape(x, "0+-");
        check.due("text", x.text(0), 1);
        check.showsAs("text", x, "0+-");
        check.due("the tape is empty then", x.count(4), 0);
        check.due("no act can be undone", x.count(5), 0);
        check.due("undo", x.undo(), -1);
        check.due("the kept one stays", x.kept(0, 0, 1), -1);
        check.due("the script stays", x.step(number, 1, 0), 5);
        check.due("status stays", x.status(2), 1);
        check.due("the image stays", x.back(), 1);
        check.showsAs("back", x, "+-/0+");
        x.deal(0, 0, 0);
        Check.tape(x, "0+-/+");
        check.due("text with a fault", x.text(0), -1);
        check.showsAs("a refused text", x, "-+/0+");
        check.due("the tape stays", x.count(4), 5);
        check.due("acts can still be undone", x.undo(), 0);
        check.showsAs("undo", x, "+-/0+");
        check.due("an empty tape is no table", new UnimodularTables().text(0), -1);
        check.due("total of one table", x.total(), 1);
        Check.table(x, "++/+-");
        check.due("total of the next", x.total(), 0);
    }

    private static void textOfScript() {
        UnimodularTables x = new UnimodularTables();
        String[] texts = {"t", "r1;c2", "x12;y34;p56", "e78-"};
        for (int i = 0; i < 4; i++) {
            Check.tape(x, texts[i]);
            check.due("text(1)", x.text(1), i);
            check.due("the tape is empty then", x.count(4), 0);
            check.due("count of scripts", x.count(3), i + 1);
        }
        Check.tape(x, "t;c0");
        check.due("fault with four scripts", x.fault(1), -1);
        check.due("a fifth script", x.text(1), -1);
        check.due("the tape stays", x.count(4), 4);
        check.due("count of scripts", x.count(3), 4);
        check.due("no fifth", x.step(4, 0, 0), -1000000);
        check.due("the fourth", x.step(3, 0, 3), -1);
        check.due("a script makes no table", x.count(0), 0);
        Check.tape(x, "+");
        x.text(0);
        x.deal(0, 0, 0);
        UnimodularTables y = Check.of("+");
        y.deal(0, 0, 0);
        Check.script(y, "t");
        check.due("a script leaves what can be undone", y.count(5), 1);
    }
}
