/**
 * Sentence by sentence of the document's Terms: where one names a boundary, what is just inside it
 * and what is just outside. What the promises refuse is in RefusalTest.
 */
public final class BoundaryTest {
    private static final Due due = new Due();
    private static final int NONE = TwiceOnce.NONE, BAD = TwiceOnce.BAD, STATE = TwiceOnce.STATE,
            FULL = TwiceOnce.FULL, BIG = TwiceOnce.BIG;
    private static final int KEYED = 0, FIRST = 1, PASS = 2, EQUAL = 3;
    private static final String[] WITH_C_AND_V = {"set", "add", "max", "if"};
    private static final String EIGHT_GETS = "get 0;get 0;get 0;get 0;get 0;get 0;get 0;get 0";

    private BoundaryTest() {
    }

    public static void main(String[] args) {
        programs();
        acts();
        ticksAndKeys();
        mends();
        fallsCounted();
        rows();
        ordersAndHolds();
        cheapestMends();
        logs();
        callsOfAnObject();
        due.end();
    }

    private static void change(TwiceOnce t, int s, String text) {
        Due.feed(t, text);
        if (t.change(s) < 0) {
            throw new IllegalStateException("no program: " + text);
        }
    }

    private static void callMany(TwiceOnce t, int s, int times) {
        for (int i = 0; i < times; i++) {
            t.call(s, 0, 0, 0);
        }
    }

    // ---- 1, programs

    private static void programs() {
        sixServices();
        fourCells();
        hundredBytes();
        lowestBytesHighestFirst();
        oneToEightActs();
        oneBlank();
        digitsOfCells();
        digitsOfServices();
        digitsOfValues();
        endsTooEarly();
        everyByte();
    }

    private static void sixServices() {
        due.part("SERVICES are numbered from 0 on, 6 at most");
        TwiceOnce t = new TwiceOnce();
        for (int s = 0; s < 6; s++) {
            due.is("not yet", t.about(s, 6), NONE);
            due.is("number", Due.service(t, "do " + s), s);
            due.is("its act", t.act(s, 0, 2), s);
            due.is("how many", t.count(0), s + 1);
        }
        due.is("a seventh", Due.service(t, "do 6"), FULL);
        due.is("how many", t.count(0), 6);
        due.is("none", t.about(6, 6), NONE);
        due.is("its tape is that of the next", t.change(5), 1);
        due.is("its act", t.act(5, 0, 2), 6);
    }

    private static void fourCells() {
        due.part("a STORE (4 CELLS, numbers 0 .. 999, 0 at first), a COUNT (0 at first)");
        TwiceOnce t = Due.with("add 3 999;get 3", "get 0");
        for (int what = 0; what <= 4; what++) {
            due.is("at first", t.about(0, what), 0);
        }
        due.is("the last cell", t.call(0, 0, 0, 0), 999);
        due.is("the last cell", t.set(0, 3, 999), 999);
        due.is("no cell", t.set(0, 4, 999), NONE);
        due.is("no number", t.set(0, 3, 1000), BAD);
        due.is("no number", t.set(0, 3, -1), BAD);
        due.is("it stays", t.about(0, 3), 999);
        for (int what = 0; what <= 3; what++) {
            due.is("another service", t.about(1, what), 0);
        }
    }

    private static void hundredBytes() {
        due.part("THE TAPE (bytes, 100 at most)");
        // The longest program has 79 bytes; behind it the first byte too many is the FAULT.
        String longest = "set 0 111;set 1 222;set 2 333;set 3 444;add 0 555;add 1 666;add 2 777;add 3 888";
        due.is("the longest", longest.length(), 79);
        due.is("it is read", Due.service(new TwiceOnce(), longest), 0);
        TwiceOnce t = new TwiceOnce();
        Due.feed(t, longest + ";".repeat(21));
        due.is("100", t.count(5), 100);
        due.is("one more", t.feed(32L, 1), FULL);
        due.is("eight more", t.feed(32L, 8), FULL);
        due.is("100", t.count(5), 100);
        due.is("what is read", t.service(), -10 - 79);
        due.is("empty", t.count(5), 0);
        TwiceOnce early = new TwiceOnce();
        Due.feed(early, "d".repeat(100));
        due.is("the first fault", early.service(), -11);
        TwiceOnce part = new TwiceOnce();
        Due.feed(part, "get 0" + "?".repeat(94));
        due.is("99", part.count(5), 99);
        due.is("two more", part.feed(32L, 2), FULL);
        due.is("not even one of them", part.count(5), 99);
        due.is("one more", part.feed(32L, 1), 100);
    }

    private static void lowestBytesHighestFirst() {
        due.part("the n lowest bytes of w, the highest first");
        TwiceOnce t = new TwiceOnce();
        due.is("8 bytes", t.feed(0x736574203320783bL, 8), 8);
        due.is("5 bytes below others", t.feed(0x7fffff6765742032L, 5), 13);
        due.is("1 byte below others", t.feed(0xffffffffffffff3bL, 1), 14);
        due.is("4 bytes", t.feed(0x646f2037L, 4), 18);
        due.is("'set 3 x;get 2;do 7'", t.service(), 0);
        due.is("set", t.act(0, 0, 1), 3);
        due.is("get", t.act(0, 1, 1), 2);
        due.is("do", t.act(0, 2, 2), 7);
        due.is("the highest bit is a byte's", t.feed(Long.MIN_VALUE, 8), 8);
        due.is("it begins nothing", t.service(), -10);
        due.is("a byte 0 above", t.feed(0x006765742030L, 6), 6);
        due.is("it begins nothing", t.service(), -10);
    }

    private static int read(String text) {
        return Due.service(new TwiceOnce(), text);
    }

    private static void reads(String text) {
        due.is("'" + text + "'", read(text), 0);
    }

    private static void faults(String text, int fault) {
        due.is("'" + text + "'", read(text), -10 - fault);
    }

    private static void oneToEightActs() {
        due.part("1 to 8 ACTS; a ninth ACT: the ; ahead of it");
        faults("", 0);
        faults(";get 0", 0);
        StringBuilder text = new StringBuilder("get 0");
        for (int acts = 1; acts <= 8; acts++) {
            TwiceOnce t = Due.with(text.toString());
            due.is("acts", t.about(0, 6), acts);
            text.append(";get 0");
        }
        int eight = 8 * 6 - 1;
        faults(text.toString(), eight);
        faults(text.substring(0, eight + 1), eight);
        faults(text.substring(0, eight + 2), eight);
        faults(text + ";get 0", eight);
        faults(text.substring(0, eight) + ";?", eight);
        faults(text.substring(0, eight) + "?", eight);
        faults(text.substring(0, eight - 6) + ";", eight - 5);
    }

    private static void oneBlank() {
        due.part("words, C, S, V with one blank between");
        for (String text : new String[] {"set 0 1", "add 0 1", "max 0 1", "ask 0 1", "get 0", "new 0",
            "do 1", "if 0 1"}) {
            reads(text);
            faults(" " + text, 0);
            faults(text + " ", text.length());
            faults(text + " ;get 0", text.length());
            faults(text + "; get 0", text.length() + 1);
            for (int at = text.indexOf(' '); at >= 0; at = text.indexOf(' ', at + 1)) {
                faults(text.substring(0, at) + " " + text.substring(at), at + 1);
                faults(text.substring(0, at) + text.substring(at + 1), at);
                faults(text.substring(0, at) + "\t" + text.substring(at + 1), at);
            }
        }
    }

    private static void digitsOfCells() {
        due.part("C a digit 0 .. 3");
        for (String word : WITH_C_AND_V) {
            cellDigits(word + " ", " 5");
        }
        cellDigits("new ", "");
        cellDigits("get ", "");
    }

    private static void cellDigits(String ahead, String behind) {
        for (int c = 0; c <= 3; c++) {
            due.is(ahead + c, Due.with(ahead + c + behind).act(0, 0, 1), c);
        }
        for (String not : new String[] {"4", "9", "/", ":", "-", "x", "r", "", ";"}) {
            faults(ahead + not + behind, ahead.length());
        }
        faults(ahead + "03" + behind, ahead.length() + 1);
    }

    private static void digitsOfServices() {
        due.part("S a digit 0 .. 5");
        for (int s = 0; s <= 5; s++) {
            due.is("ask " + s, Due.with("ask " + s + " 0").act(0, 0, 1), s);
        }
        for (String not : new String[] {"6", "9", "/", ":", "-", "x"}) {
            faults("ask " + not + " 0", 4);
        }
        faults("ask 05 0", 5);
    }

    private static void digitsOfValues() {
        due.part("V: a number of 1 to 3 digits, or x, or r");
        String[] taken = {"0", "9", "10", "99", "100", "999", "00", "000", "007", "x", "r"};
        int[] values = {0, 9, 10, 99, 100, 999, 0, 0, 7, 1000, 1001};
        for (String ahead : new String[] {"set 0 ", "add 1 ", "max 2 ", "if 3 ", "ask 5 ", "do "}) {
            for (int i = 0; i < taken.length; i++) {
                due.is(ahead + taken[i], Due.with(ahead + taken[i]).act(0, 0, 2), values[i]);
                due.is(ahead + taken[i], Due.with(ahead + taken[i] + ";get 0").about(0, 6), 2);
            }
            for (String not : new String[] {"", ";", " 1", "-1", "+1", "/", ":", "X", "R", "y"}) {
                faults(ahead + not, ahead.length());
            }
            for (String not : new String[] {"1x", "9r", "xx", "x1", "rx", "r0", "1 ", "x?"}) {
                faults(ahead + not, ahead.length() + 1);
            }
            faults(ahead + "12/", ahead.length() + 2);
            faults(ahead + "12:", ahead.length() + 2);
            faults(ahead + "1000", ahead.length() + 3);
            faults(ahead + "0000", ahead.length() + 3);
            faults(ahead + "999x", ahead.length() + 3);
        }
        faults("new 0 1", 5);
        faults("get 0 1", 5);
        faults("do 1 1", 4);
    }

    private static void endsTooEarly() {
        due.part("the end of THE TAPE, if it ends too early");
        String text = "set 0 x;add 1 r;max 2 999;new 3;get 0;ask 5 12;do 7;if 3 0";
        String whole = ",7,15,23,24,25,31,37,45,46,51,58,";
        due.is("the text", text.length(), 58);
        for (int length = 0; length <= text.length(); length++) {
            boolean isWhole = whole.contains("," + length + ",");
            String begin = text.substring(0, length);
            if (isWhole) {
                reads(begin);
            } else {
                faults(begin, length);
            }
            // No program goes on with this one, wherever it comes.
            faults(begin + "?", length);
        }
    }

    private static void everyByte() {
        due.part("the first byte with which none begins so");
        String begin = "samngdi";
        for (int b = 0; b < 256; b++) {
            TwiceOnce t = new TwiceOnce();
            t.feed(b, 1);
            due.is("byte " + b, t.service(), begin.indexOf(b) >= 0 ? -11 : -10);
            TwiceOnce last = new TwiceOnce();
            Due.feed(last, "get ");
            last.feed(b, 1);
            due.is("get and byte " + b, last.service(), b >= '0' && b <= '3' ? 0 : -14);
        }
        // Words that begin alike part at the first byte that is of neither.
        faults("adk 0 1", 2);
        faults("asd 0 1", 2);
        faults("at", 1);
        faults("AD", 0);
        faults("sat", 1);
        faults("gat 0", 1);
        faults("nee 0", 2);
        faults("mad 0", 2);
        faults("dp 1", 1);
        faults("ig 0", 1);
    }

    // ---- 1, calls

    private static void acts() {
        keysZeroToMost();
        answerAtFirst();
        setAndGet();
        addModulo();
        greaterOfBoth();
        newModulo();
        valuesBelowZero();
        askGreaterAlone();
        ifPassesOne();
        sixtyActs();
        sixtyActsAsCounted();
        fortyKept();
    }

    private static void keysZeroToMost() {
        due.part("a CALL with x (0 .. 999) and a KEY (0: none; 1 .. 99)");
        TwiceOnce t = Due.with("new 0");
        t.mend(0, KEYED, 1);
        due.is("none", t.call(0, 0, 0, 0), 1);
        due.is("none", t.call(0, 0, 0, 0), 2);
        due.is("nothing is kept", t.about(0, 5), 0);
        due.is("least", t.call(0, 0, 1, 0), 3);
        due.is("least again", t.call(0, 0, 1, 0), 3);
        due.is("most", t.call(0, 999, 99, 0), 4);
        due.is("most again", t.call(0, 999, 99, 0), 4);
        due.is("two are kept", t.about(0, 5), 2);
        due.is("above", t.call(0, 0, 100, 0), -4);
        due.is("below", t.call(0, 0, -1, 0), -4);
        due.is("above", t.call(0, 1000, 0, 0), -4);
        due.is("below", t.call(0, -1, 0, 0), -4);
        due.is("two are kept", t.about(0, 5), 2);
        due.is("six ticks", t.count(3), 6);
    }

    private static void answerAtFirst() {
        due.part("the ANSWER is 0 at first");
        for (String text : new String[] {"set 0 5", "add 0 5", "max 0 5", "do 5", "if 0 0", "if 0 5",
            "ask 0 5", "ask 5 5"}) {
            due.is(text, Due.with(text).call(0, 9, 0, 0), 0);
        }
        TwiceOnce t = Due.with("set 0 r;get 1", "get 1;ask 2 0;set 3 r", "do r");
        t.set(0, 1, 8);
        t.set(1, 1, 7);
        t.set(0, 0, 3);
        due.is("it is not of the call before", t.call(0, 0, 0, 0), 8);
        due.is("it is not of the call before", t.call(0, 0, 0, 0), 8);
        due.is("r at first", t.about(0, 0), 0);
        due.is("not of the one that asks", t.call(1, 0, 0, 0), 0);
        due.is("r at first", t.outside(0), 0);
        due.is("the one that asks has the asked one's", t.about(1, 3), 0);
    }

    private static void setAndGet() {
        due.part("set: CELL C becomes V; get: the ANSWER becomes CELL C");
        TwiceOnce t = Due.with("set 3 x;get 3");
        due.is("most", t.call(0, 999, 0, 0), 999);
        due.is("least", t.call(0, 0, 0, 0), 0);
        change(t, 0, "set 0 999;get 0");
        due.is("most", t.call(0, 0, 0, 0), 999);
        change(t, 0, "set 0 0;get 0");
        due.is("least", t.call(0, 0, 0, 0), 0);
    }

    private static void addModulo() {
        due.part("(CELL C + V) modulo 1000");
        int[][] sums = {{0, 0, 0}, {0, 999, 999}, {1, 998, 999}, {1, 999, 0}, {999, 0, 999},
            {999, 1, 0}, {999, 999, 998}, {500, 500, 0}, {500, 499, 999}, {500, 501, 1}};
        TwiceOnce t = Due.with("add 2 x;get 2");
        for (int[] s : sums) {
            t.set(0, 2, s[0]);
            due.is(s[0] + " and " + s[1], t.call(0, s[1], 0, 0), s[2]);
            due.is(s[0] + " and " + s[1], t.about(0, 2), s[2]);
        }
    }

    private static void greaterOfBoth() {
        due.part("max: the greater of both");
        int[][] both = {{0, 0, 0}, {0, 1, 1}, {1, 0, 1}, {5, 5, 5}, {5, 6, 6}, {6, 5, 6},
            {999, 0, 999}, {0, 999, 999}, {998, 999, 999}, {999, 999, 999}};
        TwiceOnce t = Due.with("max 1 x;get 1");
        for (int[] b : both) {
            t.set(0, 1, b[0]);
            due.is(b[0] + " and " + b[1], t.call(0, b[1], 0, 0), b[2]);
        }
    }

    private static void newModulo() {
        due.part("COUNT becomes (COUNT + 1) modulo 1000");
        String eight = "new 1;new 1;new 1;new 1;new 1;new 1;new 1;new 1";
        TwiceOnce t = Due.with("ask 1 0;ask 1 0;ask 1 0;ask 1 0;ask 1 0;ask 1 0", eight);
        callMany(t, 0, 20);
        due.is("960", t.about(1, 4), 960);
        callMany(t, 1, 4);
        change(t, 1, "new 2");
        callMany(t, 1, 6);
        due.is("998", t.about(1, 4), 998);
        due.is("the last one", t.call(1, 0, 0, 0), 999);
        due.is("its cell", t.about(1, 2), 999);
        due.is("the first one", t.call(1, 0, 0, 0), 0);
        due.is("its cell", t.about(1, 2), 0);
        due.is("count", t.about(1, 4), 0);
        due.is("the second one", t.call(1, 0, 0, 0), 1);
        due.is("the other service", t.about(0, 4), 0);
    }

    private static void valuesBelowZero() {
        due.part("r (the ANSWER as it is so far; below 0: 0)");
        TwiceOnce t = Due.with("get 1;ask 1 x;set 0 r;add 2 r;max 3 r;do r;ask 2 r", "add 0 x",
                "add 0 1;set 1 x");
        t.mend(0, PASS, 1);
        t.mend(1, KEYED, 1);
        // Place 1 passes (5 + 7) modulo 99 and 1 more: 13, which is kept with x 1.
        t.call(1, 1, 13, 0);
        for (int c = 0; c <= 3; c++) {
            t.set(0, c, 70 + c);
        }
        t.set(2, 1, 60);
        due.is("the last ask's answer", t.call(0, 2, 5, 0), 0);
        due.is("refused: set", t.about(0, 0), 0);
        due.is("refused: add", t.about(0, 2), 72);
        due.is("refused: max", t.about(0, 3), 73);
        due.is("refused: do", t.outside(0), 0);
        due.is("refused: ask", t.about(2, 1), 0);
        change(t, 0, "get 1;ask 1 x;if 0 r;set 0 44");
        due.is("the answer itself is below 0", t.call(0, 2, 5, 0), -1);
        due.is("refused: if", t.about(0, 0), 44);
        change(t, 0, "get 1;ask 1 1;set 0 r;get 1;do r");
        due.is("as it is so far", t.call(0, 0, 5, 0), 71);
        due.is("0 of the ask", t.about(0, 0), 0);
        due.is("71 of the get", t.outside(0), 71);
    }

    private static void askGreaterAlone() {
        due.part("SERVICE S (with a greater number; else, or if there is none, nothing is done)");
        TwiceOnce t = Due.with("add 0 1", "new 0;ask 0 5;ask 1 5;ask 3 5;ask 4 5;ask 5 5", "add 0 1;get 0");
        due.is("the answer stays", t.call(1, 0, 0, 0), 1);
        for (int s = 0; s < 3; s++) {
            due.is("no one is called", t.about(s, 0), s == 1 ? 1 : 0);
        }
        due.is("nor is the one that asks", t.about(1, 4), 1);
        change(t, 1, "new 0;ask 2 5");
        due.is("one more is greater", t.call(1, 0, 0, 0), 1);
        due.is("it is called", t.about(2, 0), 1);
        change(t, 0, "set 0 9;get 0;ask 3 7");
        due.is("there is none", t.call(0, 0, 0, 0), 9);
        Due.service(t, "get 0;set 0 x");
        due.is("now there is one", t.call(0, 0, 0, 0), 0);
        due.is("with V", t.about(3, 0), 7);
        due.is("its answer", t.call(0, 0, 0, 0), 7);
        Due.service(t, "get 0");
        Due.service(t, "set 1 x;set 2 5;get 1");
        change(t, 0, "ask 5 999");
        due.is("the last one", t.call(0, 0, 0, 0), 999);
        change(t, 5, "get 2;ask 5 1;ask 4 1");
        due.is("the last one asks no one", t.call(5, 0, 0, 0), 5);
    }

    private static void ifPassesOne() {
        due.part("if: if CELL C is not V the next ACT is passed over");
        TwiceOnce t = Due.with("if 3 x;add 0 1;add 1 1");
        t.set(0, 3, 500);
        int[] xs = {499, 500, 501, 0, 999};
        int[] taken = {0, 1, 1, 1, 1};
        for (int i = 0; i < xs.length; i++) {
            t.call(0, xs[i], 0, 0);
            due.is("the next, x " + xs[i], t.about(0, 0), taken[i]);
            due.is("the one behind it, x " + xs[i], t.about(0, 1), i + 1);
        }
        change(t, 0, "add 2 1;if 3 0");
        due.is("nothing behind", t.call(0, 0, 0, 0), 0);
        change(t, 0, "add 2 1;if 3 500");
        due.is("nothing behind", t.call(0, 0, 0, 0), 0);
        due.is("a call begins with none passed over", t.about(0, 2), 2);
        change(t, 0, "if 3 1;if 3 2;add 2 1");
        t.call(0, 0, 0, 0);
        due.is("a passed over if passes over nothing", t.about(0, 2), 3);
        TwiceOnce asks = Due.with("if 0 5;ask 1 1;add 0 1", "if 0 5;ask 2 1;get 0", "add 0 1");
        asks.set(0, 0, 5);
        asks.call(0, 0, 0, 0);
        due.is("of the asked one's own cell", asks.about(2, 0), 0);
        due.is("none is passed over in the one that asks", asks.about(0, 0), 6);
        asks.set(1, 0, 5);
        asks.call(0, 0, 0, 0);
        due.is("passed over in the one that asks", asks.about(2, 0), 0);
    }

    /** Six asks of eight and one of more: 54 acts, and what comes behind them. */
    private static TwiceOnce sixAsksAnd(String seventh, String helper) {
        return Due.with("ask 1 0;ask 1 0;ask 1 0;ask 1 0;ask 1 0;ask 1 0;" + seventh, EIGHT_GETS, helper);
    }

    private static void sixtyActs() {
        due.part("more than 60 ACTS: breaks off ahead of the 61st, as by a FALL");
        TwiceOnce t = sixAsksAnd("ask 2 0", "add 0 1;add 0 1;add 0 1;add 0 1;add 0 1");
        due.is("60, the last one asked", t.call(0, 0, 0, 0), 0);
        due.is("all done", t.about(2, 0), 5);
        change(t, 2, "add 0 1;add 0 1;add 0 1;add 0 1;add 0 1;add 0 1");
        due.is("61, the last one asked", t.call(0, 0, 0, 0), -2);
        due.is("all but the 61st", t.about(2, 0), 10);
        change(t, 2, "add 0 1;add 0 1;add 0 1;add 0 1;new 1");
        change(t, 0, "ask 1 0;ask 1 0;ask 1 0;ask 1 0;ask 1 0;ask 1 0;ask 2 0;set 3 7");
        due.is("61, the last one its own", t.call(0, 0, 0, 0), -2);
        due.is("the 61st is not done", t.about(0, 3), 0);
        due.is("the 60th is", t.about(2, 1), 1);
        change(t, 2, "add 0 1;add 0 1;add 0 1;add 0 1");
        due.is("60, the last one its own", t.call(0, 0, 0, 0), 0);
        due.is("the 60th is done", t.about(0, 3), 7);
        sixtyAndKeys();
    }

    private static void sixtyAndKeys() {
        TwiceOnce t = sixAsksAnd("ask 2 0;get 0", "get 0;get 0;get 0;get 0");
        t.mend(0, KEYED, 1);
        t.mend(0, PASS, 1);
        t.mend(2, KEYED, 1);
        due.is("60", t.call(0, 0, 1, 0), 0);
        due.is("the key is kept", t.about(0, 5), 1);
        due.is("the asked one's is kept", t.about(2, 5), 1);
        change(t, 2, "get 0;get 0;get 0;get 0;get 0");
        due.is("61", t.call(0, 0, 2, 0), -2);
        due.is("no key more", t.about(0, 5), 1);
        due.is("the asked one was at its end", t.about(2, 5), 2);
        change(t, 2, "get 0;get 0;get 0;get 0;get 0;get 0");
        due.is("61 in the asked one", t.call(0, 0, 3, 0), -2);
        due.is("no key more", t.about(2, 5), 2);
        t.mend(0, FIRST, 1);
        due.is("61 with FIRST", t.call(0, 0, 4, 0), -2);
        due.is("its key is kept", t.about(0, 5), 2);
        due.is("with the answer 0", t.call(0, 0, 4, 0), 0);
        due.is("a tick each", t.count(3), 5);
    }

    private static void sixtyActsAsCounted() {
        due.part("60 ACTS, asked ones, too, passed over ones not");
        TwiceOnce t = sixAsksAnd("ask 2 0", "if 0 1;do 1;get 0;get 0;get 0;get 0");
        due.is("a passed over one is none", t.call(0, 0, 0, 0), 0);
        t.set(2, 0, 1);
        due.is("it comes: 61", t.call(0, 0, 0, 0), -2);
        TwiceOnce none = sixAsksAnd("ask 2 0", "ask 0 0;ask 2 0;ask 5 0;get 0;get 0");
        due.is("asks that call no one come, 60", none.call(0, 0, 0, 0), 0);
        change(none, 2, "ask 0 0;ask 2 0;ask 5 0;get 0;get 0;ask 5 0");
        due.is("asks that call no one come, 61", none.call(0, 0, 0, 0), -2);
        TwiceOnce equal = sixAsksAnd("ask 2 0", "set 0 1;set 0 1;do 1;max 0 1;set 0 1;set 0 1");
        equal.mend(2, EQUAL, 1);
        due.is("61", equal.call(0, 0, 0, 0), -2);
        due.is("what EQUAL holds back came all the same", equal.call(0, 0, 0, 0), -2);
        due.is("it was held back", equal.count(2), 1);
        TwiceOnce keyed = sixAsksAnd("ask 2 0;get 0", "get 0;get 0;get 0;get 0;get 0");
        keyed.mend(0, PASS, 1);
        keyed.mend(2, KEYED, 1);
        due.is("61", keyed.call(0, 0, 9, 0), -2);
        due.is("what KEYED answers has no acts: 56", keyed.call(0, 0, 9, 0), 0);
    }

    private static void fortyKept() {
        due.part("the latest 40 are kept; all are counted");
        TwiceOnce t = Due.with("do x");
        for (int x = 1; x <= 40; x++) {
            due.is("not yet", t.outside(x - 1), NONE);
            t.call(0, x, 0, 0);
            due.is("the first", t.outside(x - 1), 1);
        }
        due.is("none", t.outside(40), NONE);
        t.call(0, 41, 0, 0);
        due.is("the 40th from the latest", t.outside(39), 2);
        due.is("not the 41st", t.outside(40), NONE);
        due.is("all", t.count(2), 41);
        String eight = "do 1;do 2;do 3;do 4;do 5;do 6;do 7;do 8";
        TwiceOnce much = Due.with("ask 1 0;ask 1 0;ask 1 0;ask 1 0;ask 1 0;ask 1 0;do 99", eight);
        much.call(0, 0, 0, 0);
        due.is("49 in one call", much.count(2), 49);
        due.is("the latest", much.outside(0), 99);
        due.is("the 39 ahead of it", much.outside(39), 2);
        due.is("not the 41st", much.outside(40), NONE);
    }

    // ---- 2, ticks and keys

    private static void ticksAndKeys() {
        ticksOfCalls();
        holdAtFirst();
        holdOfEachLength();
        holdZero();
        overAtAllServices();
        sixteenKeys();
        sixteenAtOneService();
        overOnesLeaveRoom();
        sixteenWithFirst();
        sameX();
    }

    private static void ticksOfCalls() {
        due.part("TICKS: one goes by at the begin of each CALL from outside (not ask)");
        TwiceOnce t = Due.with("ask 1 x;ask 1 x", "add 0 x");
        t.mend(0, KEYED, 1);
        due.is("none yet", t.count(3), 0);
        t.call(0, 1, 5, 0);
        due.is("asks are none", t.count(3), 1);
        t.call(0, 1, 5, 0);
        due.is("an answered one", t.count(3), 2);
        t.call(0, 2, 5, 0);
        due.is("a refused one", t.count(3), 3);
        t.call(0, 2, 6, 1);
        due.is("one that falls at once", t.count(3), 4);
        t.call(0, 2, 6, 100);
        t.call(2, 2, 6, 0);
        t.row(0, 1, 1);
        t.safe(0, 0, 0);
        t.worst();
        t.enough();
        t.cheapest(0);
        t.again();
        due.is("none else", t.count(3), 4);
    }

    /** In tick 1 a key is kept; in later ticks others are called. */
    private static TwiceOnce keptInTickOne() {
        TwiceOnce t = Due.with("new 0", "get 0");
        t.mend(0, KEYED, 1);
        due.is("kept", t.call(0, 3, 7, 0), 1);
        return t;
    }

    private static void holdAtFirst() {
        due.part("HOLD (10 at first)");
        TwiceOnce t = keptInTickOne();
        callMany(t, 1, 9);
        due.is("tick 11", t.call(0, 3, 7, 0), 1);
        due.is("not over in tick 11", t.about(0, 5), 1);
        due.is("tick 12", t.call(0, 3, 7, 0), 2);
        TwiceOnce other = keptInTickOne();
        callMany(other, 1, 10);
        due.is("not over in tick 11", other.about(0, 5), 1);
        callMany(other, 1, 1);
        due.is("over in tick 12", other.about(0, 5), 0);
    }

    private static void holdOfEachLength() {
        due.part("in a TICK above that and HOLD it is over");
        for (int hold : new int[] {1, 2, 3, 9, 20, 98, 99}) {
            TwiceOnce last = keptInTickOne();
            last.hold(0, hold);
            callMany(last, 1, hold - 1);
            due.is("the last tick of " + hold, last.call(0, 3, 7, 0), 1);
            TwiceOnce above = keptInTickOne();
            above.hold(0, hold);
            callMany(above, 1, hold);
            due.is("kept in the last tick of " + hold, above.about(0, 5), 1);
            due.is("the tick above " + hold, above.call(0, 3, 7, 0), 2);
        }
    }

    private static void holdZero() {
        due.part("HOLD 0: over in the next TICK, not in its own");
        TwiceOnce t = keptInTickOne();
        t.hold(0, 0);
        due.is("its own tick", t.about(0, 5), 1);
        due.is("the next one", t.call(0, 3, 7, 0), 2);
        // Service 2 has the same key twice in one call from outside: place 0 passes
        // (k + 0) % 99 + 1; place 7 passes (k + 49) % 99 + 1, and that one's place 7 again:
        // (k + 49 + 1 + 49) % 99 + 1, the same.
        TwiceOnce same = Due.with("ask 2 x;get 0;get 0;get 0;get 0;get 0;get 0;ask 1 x",
                "get 0;get 0;get 0;get 0;get 0;get 0;get 0;ask 2 x", "new 0");
        same.mend(0, PASS, 1);
        same.mend(1, PASS, 1);
        same.mend(2, KEYED, 1);
        same.hold(2, 0);
        due.is("answered in its own tick", same.call(0, 5, 30, 0), 1);
        due.is("done once", same.about(2, 4), 1);
        due.is("in the next tick it is over", same.call(0, 5, 30, 0), 2);
        due.is("one key is kept", same.about(2, 5), 1);
    }

    private static void overAtAllServices() {
        due.part("what is over at the begin of a CALL from outside is gone, at all SERVICES");
        TwiceOnce t = Due.with("new 0", "new 0", "get 0");
        for (int s = 0; s < 2; s++) {
            t.mend(s, KEYED, 1);
            t.hold(s, 2 + s);
            t.call(s, 0, 9, 0);
        }
        // Ticks 1 and 2; over in 4, and in 6.
        t.call(2, 0, 0, 0);
        t.call(2, 0, 0, 0);
        t.hold(0, 99);
        due.is("gone in tick 4, though none called it", t.about(0, 5), 0);
        t.call(2, 0, 0, 0);
        due.is("not over in tick 5", t.about(1, 5), 1);
        t.call(2, 0, 0, 1);
        t.hold(1, 99);
        due.is("gone in tick 6, by one that falls", t.about(1, 5), 0);
        TwiceOnce back = keptInTickOne();
        callMany(back, 1, 2);
        back.hold(0, 1);
        due.is("over in tick 3", back.about(0, 5), 0);
        back.call(5, 0, 0, 0);
        back.call(1, 1000, 0, 0);
        back.row(1, 0, 0);
        back.worst();
        back.again();
        back.hold(0, 10);
        due.is("no call began: it is not gone", back.about(0, 5), 1);
        due.is("nor is its answer", back.call(0, 3, 7, 0), 1);
    }

    private static TwiceOnce withKeys(int many) {
        TwiceOnce t = Due.with("new 0", "new 0");
        t.mend(0, KEYED, 1);
        t.mend(1, KEYED, 1);
        t.hold(0, 99);
        t.hold(1, 99);
        for (int key = 1; key <= many; key++) {
            due.is("kept", t.call(0, key, key, 0), key);
        }
        return t;
    }

    private static void sixteenKeys() {
        due.part("16 at most: the oldest goes");
        due.is("15", withKeys(15).about(0, 5), 15);
        due.is("16", withKeys(16).about(0, 5), 16);
        due.is("17", withKeys(17).about(0, 5), 16);
        for (int key = 1; key <= 16; key++) {
            due.is("of 16, key " + key, withKeys(16).call(0, key, key, 0), key);
        }
        due.is("of 17 the oldest", withKeys(17).call(0, 1, 1, 0), 18);
        for (int key = 2; key <= 17; key++) {
            due.is("of 17, key " + key, withKeys(17).call(0, key, key, 0), key);
        }
        due.is("of 18 the second", withKeys(18).call(0, 2, 2, 0), 19);
        due.is("of 18 the third", withKeys(18).call(0, 3, 3, 0), 3);
        TwiceOnce t = withKeys(16);
        t.call(0, 1, 1, 0);
        t.call(0, 99, 2, 0);
        due.is("an answered and a refused one make none newer", t.call(0, 5, 50, 0), 17);
        due.is("the oldest went", t.call(0, 1, 1, 0), 18);
    }

    private static void sixteenAtOneService() {
        due.part("16 at most, of each SERVICE");
        TwiceOnce t = withKeys(16);
        for (int key = 1; key <= 16; key++) {
            due.is("of the other", t.call(1, key, key, 0), key);
        }
        due.is("16 and 16", t.about(0, 5), 16);
        due.is("16 and 16", t.about(1, 5), 16);
        due.is("the oldest", t.call(0, 1, 1, 0), 1);
        due.is("the oldest", t.call(1, 1, 1, 0), 1);
    }

    private static void overOnesLeaveRoom() {
        due.part("what is over is gone and leaves room");
        TwiceOnce t = withKeys(16);
        // Key k is of tick k; with HOLD 15 key 1 is over in tick 17, and key 2 is not.
        t.hold(0, 15);
        due.is("one more", t.call(0, 17, 17, 0), 17);
        due.is("16", t.about(0, 5), 16);
        t.hold(0, 99);
        due.is("the second stays", t.call(0, 2, 2, 0), 2);
        due.is("the first is gone", t.call(0, 1, 1, 0), 18);
        TwiceOnce two = withKeys(16);
        two.hold(0, 14);
        due.is("two are over", two.call(0, 17, 17, 0), 17);
        due.is("15", two.about(0, 5), 15);
    }

    private static void sixteenWithFirst() {
        due.part("FIRST: kept at its begin, with ANSWER 0; the ANSWER at its end");
        TwiceOnce t = withKeys(16);
        t.mend(0, FIRST, 1);
        due.is("a fall at once", t.call(0, 17, 17, 1), -2);
        due.is("16", t.about(0, 5), 16);
        due.is("the oldest went", t.call(0, 1, 1, 1), -2);
        due.is("and is kept anew, with 0", t.call(0, 1, 1, 0), 0);
        due.is("the 17th, with 0", t.call(0, 17, 17, 0), 0);
        due.is("with its x", t.call(0, 18, 17, 0), -1);
        due.is("the second went then", t.call(0, 2, 2, 0), 17);
        due.is("and has its answer at its end", t.call(0, 2, 2, 0), 17);
        due.is("count", t.about(0, 4), 17);
        t.mend(0, KEYED, 0);
        due.is("without KEYED it is nothing", t.call(0, 2, 2, 0), 18);
        due.is("16 still", t.about(0, 5), 16);
        TwiceOnce none = Due.with("new 0");
        none.mend(0, KEYED, 1);
        none.mend(0, FIRST, 1);
        due.is("key 0", none.call(0, 0, 0, 1), -2);
        due.is("is never kept", none.about(0, 5), 0);
        due.is("key 0", none.call(0, 0, 0, 0), 1);
        due.is("is never kept", none.about(0, 5), 0);
    }

    private static void sameX() {
        due.part("the kept one, if x is the same; else the CALL is REFUSED: -1");
        for (int x : new int[] {0, 1, 500, 999}) {
            TwiceOnce t = Due.with("add 0 1;set 1 x;get 1;do 5");
            t.mend(0, KEYED, 1);
            due.is("done", t.call(0, x, 99, 0), x);
            due.is("the same x", t.call(0, x, 99, 0), x);
            if (x > 0) {
                due.is("one less", t.call(0, x - 1, 99, 0), -1);
            }
            if (x < 999) {
                due.is("one more", t.call(0, x + 1, 99, 0), -1);
            }
            due.is("once", t.about(0, 0), 1);
            due.is("once", t.count(2), 1);
            due.is("another key", t.call(0, x, 98, 0), x);
            due.is("done", t.about(0, 0), 2);
        }
    }

    // ---- 2, mends

    private static void mends() {
        passedKeys();
        nothingKnownYet();
        knownOfThePlace();
        latestCallAlone();
    }

    private static void passedKeys() {
        due.part("PASS: (k + 7 times the place) modulo 99, and 1 more; else 0");
        int[][] passed = {{1, 0, 2}, {97, 0, 98}, {98, 0, 99}, {99, 0, 1}, {91, 1, 99}, {92, 1, 1},
            {93, 1, 2}, {1, 1, 9}, {99, 1, 8}, {49, 7, 99}, {50, 7, 1}, {51, 7, 2}, {99, 7, 50},
            {1, 7, 51}};
        for (int[] p : passed) {
            TwiceOnce t = Due.with("if 0 0;".repeat(p[1]) + "ask 1 7", "new 0");
            t.mend(0, PASS, 1);
            t.mend(1, KEYED, 1);
            due.is("key " + p[0] + " at place " + p[1], t.call(0, 0, p[0], 0), 1);
            due.is("is kept", t.about(1, 5), 1);
            due.is("as " + p[2], t.call(1, 7, p[2], 0), 1);
            due.is("without a key", t.call(0, 0, 0, 0), 2);
            due.is("none is passed", t.about(1, 5), 1);
            t.mend(0, PASS, 0);
            due.is("without PASS", t.call(0, 0, p[0], 0), 3);
            due.is("none is passed", t.about(1, 5), 1);
            t.mend(1, PASS, 1);
            due.is("PASS of the asked one", t.call(0, 0, p[0], 0), 4);
            due.is("is for what it asks", t.about(1, 5), 1);
        }
        passedOn();
    }

    private static void passedOn() {
        // The place counts all acts of the program, passed over ones, too: 3 + 7 * 2 + 1.
        TwiceOnce t = Due.with("if 0 1;get 0;ask 1 7", "ask 2 x", "new 0");
        t.mend(0, PASS, 1);
        t.mend(1, PASS, 1);
        t.mend(1, KEYED, 1);
        t.mend(2, KEYED, 1);
        due.is("call", t.call(0, 0, 3, 0), 1);
        due.is("passed at place 2", t.call(1, 7, 18, 0), 1);
        due.is("passed on at place 0", t.call(2, 7, 19, 0), 1);
        due.is("done once", t.about(2, 4), 1);
        t.mend(0, PASS, 0);
        due.is("0 is passed on as 0", t.call(0, 0, 3, 0), 2);
        due.is("one key", t.about(1, 5), 1);
        due.is("one key", t.about(2, 5), 1);
    }

    private static void nothingKnownYet() {
        due.part("EQUAL: nothing is known of a SERVICE that was not called");
        for (String text : new String[] {"set 0 0;do 0", "do 0", "max 0 0;do 0"}) {
            TwiceOnce t = Due.with(text);
            t.mend(0, EQUAL, 1);
            t.set(0, 0, 5);
            t.call(0, 0, 0, 0);
            due.is("'" + text + "' is done", t.count(2), 1);
            due.is("'" + text + "' is done", t.about(0, 0), text.startsWith("set") ? 0 : 5);
            t.call(0, 0, 0, 0);
            due.is("'" + text + "' is held back", t.count(2), 1);
        }
        for (String text : new String[] {"set 0 0", "set 0 1", "set 0 999", "set 1 999", "set 3 0",
            "max 0 1", "max 2 999", "do 0", "do 1", "do 999"}) {
            noneCame(text);
        }
        TwiceOnce t = Due.with("if 0 1;do 0");
        t.mend(0, EQUAL, 1);
        t.call(0, 0, 0, 0);
        t.set(0, 0, 1);
        t.call(0, 0, 0, 0);
        due.is("passed over: none came there", t.count(2), 1);
        t.call(0, 0, 0, 0);
        due.is("now one came", t.count(2), 1);
        t.set(0, 0, 0);
        t.call(0, 0, 0, 0);
        t.set(0, 0, 1);
        t.call(0, 0, 0, 0);
        due.is("none came there in the latest", t.count(2), 2);
    }

    /** An act that was passed over in the latest call is done when it comes; then it is known. */
    private static void noneCame(String text) {
        String[] parts = text.split(" ");
        boolean isDo = parts[0].equals("do");
        int cell = isDo ? 0 : Integer.parseInt(parts[1]);
        int value = Integer.parseInt(parts[parts.length - 1]);
        int before = parts[0].equals("set") ? 500 : 0;
        TwiceOnce t = Due.with("if " + (cell + 1) % 4 + " 1;" + text);
        t.mend(0, EQUAL, 1);
        t.set(0, cell, before);
        t.call(0, 6, 6, 0);
        due.is(text + " is passed over", isDo ? t.count(2) : t.about(0, cell), isDo ? 0 : before);
        t.set(0, (cell + 1) % 4, 1);
        t.call(0, 6, 6, 0);
        due.is(text + " is done", isDo ? t.outside(0) : t.about(0, cell), value);
        t.set(0, cell, before);
        t.call(0, 6, 6, 0);
        due.is(text + " is held back", isDo ? t.count(2) : t.about(0, cell), isDo ? 1 : before);
    }

    private static void knownOfThePlace() {
        due.part("EQUAL: x, KEY and for each place the ACT (its word, C, V as a number)");
        TwiceOnce t = Due.with("set 3 999;max 2 999;do 999;add 1 1;new 0;get 1");
        t.mend(0, EQUAL, 1);
        due.is("done", t.call(0, 999, 99, 0), 1);
        for (int cell = 2; cell <= 3; cell++) {
            t.set(0, cell, 0);
        }
        due.is("held back, but for add, new, get", t.call(0, 999, 99, 0), 2);
        due.is("max", t.about(0, 2), 0);
        due.is("set", t.about(0, 3), 0);
        due.is("do", t.count(2), 1);
        due.is("new", t.about(0, 4), 2);
        due.is("x one less", t.call(0, 998, 99, 0), 3);
        due.is("max", t.about(0, 2), 999);
        due.is("do", t.count(2), 2);
        due.is("key one less", t.call(0, 998, 98, 0), 4);
        due.is("do", t.count(2), 3);
        due.is("no key", t.call(0, 998, 0, 0), 5);
        due.is("do", t.count(2), 4);
        TwiceOnce last = Due.with("get 0;get 0;get 0;get 0;get 0;get 0;get 0;do x");
        last.mend(0, EQUAL, 1);
        last.call(0, 5, 0, 0);
        last.call(0, 5, 0, 0);
        due.is("the eighth place", last.count(2), 1);
        change(last, 0, "get 0;get 0;get 0;get 0;get 0;get 0;do x");
        last.call(0, 5, 0, 0);
        due.is("the seventh place is another", last.count(2), 2);
        change(last, 0, "get 0;get 0;get 0;get 0;get 0;get 0;do 5;do 5");
        last.call(0, 5, 0, 0);
        due.is("V as a number; none came at the eighth", last.count(2), 3);
        valuesAsNumbers();
    }

    private static void valuesAsNumbers() {
        TwiceOnce t = Due.with("get 0;do r;set 1 r");
        t.mend(0, EQUAL, 1);
        t.set(0, 0, 7);
        t.call(0, 7, 1, 0);
        t.set(0, 0, 8);
        t.call(0, 7, 1, 0);
        due.is("r is another number", t.count(2), 2);
        due.is("r is another number", t.about(0, 1), 8);
        change(t, 0, "get 0;do 008;set 1 8");
        t.set(0, 1, 0);
        t.call(0, 7, 1, 0);
        due.is("r was the same number", t.count(2), 2);
        due.is("r was the same number", t.about(0, 1), 0);
        change(t, 0, "get 0;do 9;set 1 7");
        t.call(0, 7, 1, 0);
        due.is("one more", t.outside(0), 9);
        due.is("one less", t.about(0, 1), 7);
        change(t, 0, "get 0;do 9;set 2 7");
        t.call(0, 7, 1, 0);
        due.is("another C", t.about(0, 2), 7);
        change(t, 0, "get 0;do 9;max 2 7");
        t.set(0, 2, 0);
        t.call(0, 7, 1, 0);
        due.is("another word", t.about(0, 2), 7);
        due.is("the same do all along", t.count(2), 3);
    }

    private static void latestCallAlone() {
        due.part("EQUAL: of the latest CALL that was not answered or REFUSED by KEYED");
        TwiceOnce t = Due.with("do x", "ask 0 x", "get 0");
        t.mend(0, EQUAL, 1);
        t.mend(0, KEYED, 1);
        t.call(0, 4, 0, 0);
        t.call(0, 5, 8, 0);
        due.is("two", t.count(2), 2);
        t.call(0, 5, 8, 0);
        t.call(0, 6, 8, 0);
        t.hold(0, 0);
        t.call(0, 5, 8, 0);
        due.is("the one with the key is the latest still", t.count(2), 2);
        t.call(0, 4, 0, 0);
        due.is("the one ahead of the latest is not known", t.count(2), 3);
        t.call(0, 4, 0, 1);
        t.call(0, 4, 0, 0);
        due.is("one that fell ahead of act 1 is the latest: none came", t.count(2), 4);
        t.call(2, 4, 0, 0);
        t.call(1, 4, 0, 0);
        t.call(0, 4, 0, 0);
        due.is("of the service itself", t.count(2), 4);
        t.call(0, 9, 0, 1);
        t.call(0, 4, 0, 0);
        due.is("another x fell", t.count(2), 5);
    }

    // ---- 2, falls

    private static void fallsCounted() {
        due.part("a FALL at ACT n, counted from 1; fewer ACTS: there is no FALL");
        TwiceOnce t = Due.with("add 0 1;add 1 1;get 1");
        for (int fall = 0; fall <= 5; fall++) {
            t.reset();
            boolean falls = fall >= 1 && fall <= 3;
            due.is("fall " + fall, t.call(0, 0, 0, fall), falls ? -2 : 1);
            due.is("act 1, fall " + fall, t.about(0, 0), fall == 1 ? 0 : 1);
            due.is("act 2, fall " + fall, t.about(0, 1), fall == 1 || fall == 2 ? 0 : 1);
        }
        due.is("fall 99", t.call(0, 0, 0, 99), 2);
        TwiceOnce over = Due.with("if 0 5;do 1;if 0 0;do 2");
        for (int fall = 1; fall <= 4; fall++) {
            due.is("passed over ones not, " + fall, over.call(0, 0, 0, fall), fall <= 3 ? -2 : 0);
            due.is("passed over ones not, " + fall, over.count(2), fall <= 3 ? 0 : 1);
        }
        TwiceOnce asks = Due.with("ask 1 0;ask 0 0;do 3", "do 1;do 2");
        int[] done = {0, 0, 1, 2, 2};
        for (int fall = 1; fall <= 5; fall++) {
            asks.reset();
            due.is("asked ones, too, " + fall, asks.call(0, 0, 0, fall), -2);
            due.is("asked ones, too, " + fall, asks.count(2), done[fall - 1]);
        }
        due.is("fewer", asks.call(0, 0, 0, 6), 0);
        fallsAtSixty();
        fallsOfKeyed();
    }

    private static void fallsAtSixty() {
        TwiceOnce t = sixAsksAnd("ask 2 0", "get 0;get 0;get 0;get 0;add 0 1");
        due.is("at 59", t.call(0, 0, 0, 59), -2);
        due.is("at 60", t.call(0, 0, 0, 60), -2);
        due.is("the 60th is not done", t.about(2, 0), 0);
        due.is("at 61 of 60", t.call(0, 0, 0, 61), 0);
        due.is("at 99 of 60", t.call(0, 0, 0, 99), 1);
        due.is("the 60th is done", t.about(2, 0), 2);
        change(t, 2, "get 0;get 0;get 0;get 0;add 0 1;add 0 1");
        for (int fall : new int[] {0, 61, 62, 99}) {
            due.is("61 acts, fall " + fall, t.call(0, 0, 0, fall), -2);
        }
        due.is("the 60th is done, the 61st is not", t.about(2, 0), 6);
    }

    private static void fallsOfKeyed() {
        due.part("what was done stays, what was to be done at ends is not");
        TwiceOnce t = Due.with("ask 1 x;ask 1 x;get 0", "add 0 1;get 0");
        t.mend(0, KEYED, 1);
        t.mend(0, PASS, 1);
        t.mend(1, KEYED, 1);
        due.is("in the second ask", t.call(0, 0, 5, 6), -2);
        due.is("its first act is done", t.about(1, 0), 2);
        due.is("the first ask's key is kept alone", t.about(1, 5), 1);
        due.is("the asker's is not", t.about(0, 5), 0);
        // Once more: the first ask is answered without acts, the second one is done.
        due.is("ahead of the last act", t.call(0, 0, 5, 5), -2);
        due.is("both are at their ends", t.about(1, 5), 2);
        due.is("the asker is not", t.about(0, 5), 0);
        due.is("no fall", t.call(0, 0, 5, 4), 0);
        due.is("now it is", t.about(0, 5), 1);
        due.is("an answered one has no acts", t.call(0, 0, 5, 1), 0);
        due.is("a refused one has none either", t.call(0, 1, 5, 1), -1);
    }

    // ---- 3, rows

    private static void rows() {
        sixCalls();
        gapsOfPlaces();
        comesBehindTheGap();
        fallsOfSafe();
        likeInStores();
        likeInCounts();
        likeInActsOutside();
        likeInAnswers();
        beginsWithStoresAndCounts();
        beginsWithKeys();
        beginsWithWhatEqualKnows();
        worstFalls();
        worstIsTheFirst();
    }

    private static void sixCalls() {
        due.part("a ROW is a row of CALLS from outside, 6 at most");
        TwiceOnce t = Due.with("set 0 x", "set 1 x");
        for (int i = 1; i <= 6; i++) {
            due.is("call " + i, t.row(0, 5, 0), i);
        }
        due.is("safe", t.worst(), NONE);
        due.is("a seventh", t.row(1, 6, 0), FULL);
        due.is("a seventh that would not be safe", t.row(0, 6, 0), FULL);
        due.is("six", t.count(1), 6);
        due.is("safe still", t.worst(), NONE);
        due.is("the last place", t.safe(5, 0, 0), 1);
        due.is("no place", t.safe(6, 0, 0), NONE);
        due.is("cleared", t.clear(), 6);
        due.is("no place", t.safe(0, 0, 0), NONE);
        due.is("room again", t.row(1, 6, 0), 1);
    }

    private static void gapsOfPlaces() {
        due.part("gap g (0 or more, at most as many as are behind i)");
        TwiceOnce t = Due.with("set 0 x");
        for (int n = 1; n <= 6; n++) {
            t.row(0, 5, 0);
            for (int place = 0; place < n; place++) {
                due.is("none", t.safe(place, 0, 0), 1);
                due.is("all behind", t.safe(place, n - 1 - place, 0), 1);
                due.is("one more", t.safe(place, n - place, 0), BAD);
                due.is("one less than none", t.safe(place, -1, 0), BAD);
            }
            due.is("no place", t.safe(n, 0, 0), NONE);
            due.is("no place", t.safe(-1, 0, 0), NONE);
        }
    }

    private static void comesBehindTheGap() {
        due.part("comes again behind the g-th CALL that follows it (g 0: at once); then the rest");
        TwiceOnce latest = Due.with("set 0 x");
        latest.row(0, 9, 0);
        for (int i = 1; i <= 5; i++) {
            latest.row(0, 8, 0);
        }
        for (int gap = 0; gap <= 5; gap++) {
            due.is("8 is the last one, gap " + gap, latest.safe(0, gap, 0), gap < 5 ? 1 : 0);
        }
        TwiceOnce order = Due.with("do x");
        order.row(0, 1, 0);
        order.row(0, 2, 0);
        order.row(0, 1, 0);
        order.row(0, 3, 0);
        // Place 0 falls ahead of its act: at gap g the acts are those of the others with 1 put in.
        due.is("1 2 1 3", order.safe(0, 0, 1), 1);
        due.is("2 1 1 3", order.safe(0, 1, 1), 0);
        due.is("2 1 1 3", order.safe(0, 2, 1), 0);
        due.is("2 1 3 1", order.safe(0, 3, 1), 0);
        due.is("1 2 1 3", order.safe(3, 0, 1), 1);
        due.is("1 2 3 1", order.safe(2, 1, 1), 0);
    }

    private static void fallsOfSafe() {
        due.part("fall f (0: none), 0 .. 99");
        TwiceOnce t = Due.with("get 0;add 0 1");
        t.row(0, 0, 0);
        t.free(1);
        int[] safe = {0, 1, 1, 0, 0};
        for (int fall = 0; fall <= 4; fall++) {
            due.is("fall " + fall, t.safe(0, 0, fall), safe[fall]);
        }
        due.is("the most", t.safe(0, 0, 99), 0);
        due.is("above", t.safe(0, 0, 100), BAD);
        due.is("below", t.safe(0, 0, -1), BAD);
        TwiceOnce much = sixAsksAnd("ask 2 0", "get 0;get 0;get 0;get 0;add 0 1");
        much.row(0, 0, 0);
        due.is("ahead of the 60th", much.safe(0, 0, 60), 1);
        due.is("there is no 61st", much.safe(0, 0, 61), 0);
        change(much, 2, "get 0;get 0;get 0;get 0;set 0 1;add 0 1");
        due.is("it breaks off both times", much.safe(0, 0, 0), 1);
        due.is("at the 61st, too", much.safe(0, 0, 61), 1);
        due.is("behind it, too", much.safe(0, 0, 99), 1);
    }

    private static void likeInStores() {
        due.part("LIKE: all STORES");
        for (int s = 0; s <= 5; s++) {
            for (int cell = 0; cell <= 3; cell++) {
                TwiceOnce t = Due.with("get 0", "get 0", "get 0", "get 0", "get 0", "get 0");
                change(t, s, "add " + cell + " x");
                t.row(s, 1, 0);
                due.is("one more in " + s + " " + cell, t.safe(0, 0, 0), 0);
                t.clear();
                t.row(s, 0, 0);
                due.is("none more in " + s + " " + cell, t.safe(0, 0, 0), 1);
            }
        }
        TwiceOnce wraps = Due.with("add 0 500;add 0 500");
        wraps.row(0, 0, 0);
        due.is("modulo 1000 it is the same", wraps.safe(0, 0, 0), 1);
        due.is("a fall between", wraps.safe(0, 0, 2), 0);
    }

    private static void likeInCounts() {
        due.part("LIKE: COUNTS");
        for (int s = 0; s <= 5; s++) {
            TwiceOnce t = Due.with("get 0", "get 0", "get 0", "get 0", "get 0", "get 0");
            change(t, s, "new 0;set 0 0;get 0");
            t.row(s, 0, 0);
            due.is("the count of " + s + " alone", t.safe(0, 0, 0), 0);
            due.is("a fall ahead of it", t.safe(0, 0, 1), 1);
            due.is("a fall behind it", t.safe(0, 0, 2), 0);
        }
    }

    private static void likeInActsOutside() {
        due.part("LIKE: the ACTS OUTSIDE that were done in it, in their order");
        String eight = "do 3;do 3;do 3;do 3;do 3;do 3;do 3;do 3";
        TwiceOnce t = Due.with("do x", "ask 2 0;ask 2 0;ask 2 0;ask 2 0;ask 2 0;ask 2 0", eight);
        t.row(0, 1, 0);
        t.row(0, 2, 0);
        due.is("1 2", t.safe(0, 0, 1), 1);
        due.is("2 1", t.safe(0, 1, 1), 0);
        t.row(1, 0, 0);
        // More than 40 behind them are the same, and as many were done: all are compared.
        due.is("1 2 and 48 more", t.safe(0, 0, 1), 1);
        due.is("2 1 and 48 more", t.safe(0, 1, 1), 0);
        t.clear();
        t.row(0, 7, 0);
        for (int i = 0; i < 45; i++) {
            t.call(0, 7, 0, 0);
        }
        due.is("what was done before is none of it", t.safe(0, 0, 1), 1);
        due.is("one more of the same", t.safe(0, 0, 0), 0);
        t.clear();
        t.row(1, 0, 0);
        t.row(1, 0, 0);
        due.is("96 and 144 of the same", t.safe(0, 1, 0), 0);
        due.is("96 both times", t.safe(0, 1, 1), 1);
    }

    private static void likeInAnswers() {
        due.part("LIKE: ANSWERS; of its first coming, unless this broke off; of its second one, unless FREE");
        TwiceOnce t = Due.with("get 0;set 0 x", "get 0;set 1 5");
        t.row(0, 3, 0);
        due.is("second 3, once 0", t.safe(0, 0, 0), 0);
        due.is("broke off ahead of set: second 0", t.safe(0, 0, 2), 1);
        due.is("no fall: as without", t.safe(0, 0, 3), 0);
        t.free(1);
        due.is("free", t.safe(0, 0, 0), 1);
        due.is("free, broke off", t.safe(0, 0, 1), 1);
        t.free(0);
        t.set(0, 0, 3);
        due.is("the same all along", t.safe(0, 0, 0), 1);
        t.clear();
        t.free(1);
        t.set(0, 0, 1);
        t.row(0, 1, 0);
        t.row(0, 2, 0);
        t.row(0, 2, 0);
        // Once 1 1 2; place 0 again behind the second: 1 1 (2) 1: the third one's answer differs.
        due.is("of another call, FREE or not", t.safe(0, 1, 0), 0);
        due.is("not of what comes again", t.safe(0, 0, 0), 1);
        TwiceOnce last = Due.with("get 0;get 0;if 0 0;set 0 1");
        last.row(0, 0, 0);
        due.is("one that broke off has no answer", last.safe(0, 0, 2), 1);
        due.is("one that broke off at its last act", last.safe(0, 0, 4), 1);
        due.is("second 1", last.safe(0, 0, 5), 0);
    }

    private static void beginsWithStoresAndCounts() {
        due.part("all begins as it is now, both times: STORES, COUNTS, PROGRAMS, MENDS");
        TwiceOnce t = Due.with("if 3 5;add 1 1");
        t.row(0, 0, 7);
        due.is("the cell is 0", t.safe(0, 0, 0), 1);
        t.set(0, 3, 5);
        due.is("the cell is 5", t.safe(0, 0, 0), 0);
        t.mend(0, KEYED, 1);
        due.is("KEYED", t.safe(0, 0, 0), 1);
        t.hold(0, 0);
        due.is("with HOLD 0", t.safe(0, 0, 0), 0);
        change(t, 0, "set 1 1");
        due.is("another program", t.safe(0, 0, 0), 1);
        due.is("nothing came of it", t.about(0, 1), 0);
        // One new number, 7, is told: of the first coming, of the second one, of none.
        for (int count = 4; count <= 7; count++) {
            TwiceOnce n = Due.with("new 0;if 0 7;do 1;set 0 0", "get 0");
            for (int i = 0; i < count; i++) {
                n.call(0, 0, 0, 2);
            }
            n.set(0, 0, 0);
            n.row(0, 0, 0);
            n.row(1, 0, 0);
            due.is("count " + count, n.orders(0, 1), count == 5 ? 0 : 3);
        }
    }

    /** In tick 1 a key was kept with x 5 and the ANSWER 9; a row of one call with that key. */
    private static TwiceOnce keptNine(int x) {
        TwiceOnce t = Due.with("get 0");
        t.mend(0, KEYED, 1);
        t.set(0, 0, 9);
        t.call(0, 5, 8, 0);
        t.row(0, x, 8);
        // The first coming is in tick 2, the second one in tick 3, where the key is over.
        t.hold(0, 1);
        return t;
    }

    private static void beginsWithKeys() {
        due.part("all begins as it is now: KEYS with x, ANSWER and TICK");
        due.is("answered 9, then it is 9", keptNine(5).safe(0, 0, 0), 1);
        due.is("refused, then it is 9", keptNine(6).safe(0, 0, 0), 0);
        TwiceOnce zero = keptNine(5);
        zero.set(0, 0, 0);
        due.is("answered 9, then it is 0", zero.safe(0, 0, 0), 0);
        zero.hold(0, 0);
        due.is("over at once: 0, then it is 0", zero.safe(0, 0, 0), 1);
        TwiceOnce longer = keptNine(6);
        longer.hold(0, 2);
        due.is("refused, then refused", longer.safe(0, 0, 0), 1);
        TwiceOnce other = keptNine(6);
        other.clear();
        other.row(0, 6, 7);
        due.is("another key: 9, then 9", other.safe(0, 0, 0), 1);
    }

    private static void beginsWithWhatEqualKnows() {
        due.part("all begins as it is now: what EQUAL knows");
        String text = "set 0 x;get 0;set 0 9";
        int[][] calls = {{5, 3, 1}, {4, 3, 0}, {5, 2, 0}};
        for (int[] c : calls) {
            TwiceOnce t = Due.with(text);
            t.mend(0, EQUAL, 1);
            t.call(0, c[0], c[1], 0);
            t.row(0, 5, 3);
            // Known: 9 and 9 are answered; else 5 and then 9.
            due.is("known x " + c[0] + ", key " + c[1], t.safe(0, 0, 0), c[2]);
        }
        TwiceOnce fell = Due.with(text);
        fell.mend(0, EQUAL, 1);
        fell.call(0, 5, 3, 1);
        fell.set(0, 0, 9);
        fell.row(0, 5, 3);
        due.is("known: no act came", fell.safe(0, 0, 0), 0);
        TwiceOnce never = Due.with(text);
        never.mend(0, EQUAL, 1);
        never.row(0, 0, 0);
        due.is("nothing is known: 0 and 9", never.safe(0, 0, 0), 0);
        never.call(0, 0, 0, 0);
        due.is("known: 9 and 9", never.safe(0, 0, 0), 1);
        change(never, 0, "set 1 x;get 0;set 0 9");
        due.is("another act is known: 9 and 9 all the same", never.safe(0, 0, 0), 1);
        change(never, 0, "set 0 1;get 0;set 0 9");
        due.is("the last act alone is known: 1 and 1", never.safe(0, 0, 0), 1);
        change(never, 0, "set 0 1;get 0;set 0 8");
        due.is("other acts are known: 1 and 8", never.safe(0, 0, 0), 0);
    }

    private static void worstFalls() {
        due.part("WORST: falls 0 .. 5");
        // Only a fall between the two adds leaves one of them; they are 1000 together.
        for (int fall = 2; fall <= 8; fall++) {
            TwiceOnce t = Due.with("get 1;".repeat(fall - 2) + "add 0 500;add 0 500");
            t.row(0, 0, 0);
            due.is("at " + fall, t.worst(), fall <= 5 ? fall : NONE);
            due.is("at " + fall, t.safe(0, 0, fall), 0);
            due.is("ahead of it", t.safe(0, 0, fall - 1), 1);
            due.is("behind it", t.safe(0, 0, fall + 1), 1);
        }
    }

    private static void worstIsTheFirst() {
        due.part("WORST: the first by place, gap, fall");
        due.is("an empty ROW is safe", Due.with("add 0 1").worst(), NONE);
        for (int place = 0; place <= 5; place++) {
            TwiceOnce t = Due.with("get 0", "add 0 1");
            for (int i = 0; i <= 5; i++) {
                t.row(i == place ? 1 : 0, 0, 0);
            }
            // Service 0 tells nothing of service 1: the add is the only one.
            due.is("place " + place, t.worst(), 1000 * place);
        }
        for (int gap = 1; gap <= 5; gap++) {
            TwiceOnce t = Due.with("set 0 x");
            t.row(0, 1, 0);
            for (int i = 1; i < gap; i++) {
                t.row(0, 1, 0);
            }
            t.row(0, 2, 0);
            due.is("gap " + gap, t.worst(), 100 * gap);
        }
        TwiceOnce all = Due.with("add 0 500;add 0 500", "get 0");
        for (int i = 0; i < 5; i++) {
            all.row(1, 0, 0);
        }
        all.row(0, 0, 0);
        due.is("the last place, gap 0, fall 2", all.worst(), 5002);
        TwiceOnce last = Due.with("set 0 x;set 1 x;set 2 x;set 3 x;add 0 x", "set 3 1");
        last.row(1, 0, 0);
        last.row(1, 0, 0);
        last.row(1, 0, 0);
        last.row(1, 0, 0);
        last.row(0, 1, 0);
        last.row(0, 2, 0);
        due.is("place 4, gap 1, fall 0", last.worst(), 4100);
        TwiceOnce most = Due.with("get 1;get 1;get 1;add 0 500;add 0 500", "get 0", "set 0 x");
        most.row(2, 3, 0);
        most.row(1, 0, 0);
        most.row(0, 0, 0);
        due.is("place 2, fall 5", most.worst(), 2005);
    }

    // ---- 3, orders, holds

    private static void ordersAndHolds() {
        twoToFourCalls();
        ordersLike();
        heapsOfActs();
        everyOrder();
        holdsZeroToTwenty();
        holdsForGaps();
    }

    private static void twoToFourCalls() {
        due.part("ORDERS: of a ROW of 2 to 4 CALLS");
        TwiceOnce t = Due.with("set 0 5");
        int[] many = {STATE, 3, 12, 60, STATE, STATE};
        due.is("no place", t.orders(0, 0), NONE);
        for (int n = 1; n <= 6; n++) {
            t.row(0, 5, 0);
            for (int place = 0; place < n; place++) {
                due.is("of " + n + ", place " + place, t.orders(place, 0), many[n - 1]);
                due.is("all likewise of " + n, t.orders(place, 1), many[n - 1]);
                due.is("no what", t.orders(place, 2), NONE);
            }
            due.is("no place", t.orders(n, 0), NONE);
        }
    }

    private static void ordersLike() {
        due.part("ORDERS: STORES and ACTS OUTSIDE (as a heap: how often each number)");
        TwiceOnce t = Due.with("do x");
        t.row(0, 1, 0);
        t.row(0, 2, 0);
        due.is("1 1 2 is no 1 2", t.orders(0, 1), 0);
        TwiceOnce none = Due.with("if 0 0;do x;set 0 1");
        none.row(0, 1, 0);
        none.row(0, 1, 0);
        due.is("done by the first one alone", none.orders(0, 1), 3);
        none.row(0, 2, 0);
        // Once 1 or 2 is done, by whichever is the first; twice, too.
        due.is("some order does it", none.orders(2, 1), 12);
        for (int cell = 0; cell <= 3; cell++) {
            // x 0 sets the cell to 7, another one is added.
            String text = "add " + cell + " x;if " + (cell + 1) % 4 + " x;set " + cell + " 7";
            TwiceOnce store = Due.with(text);
            store.row(0, 400, 0);
            store.row(0, 0, 0);
            // Once: 7 or 407. aab: 7, aba: 407, baa: 807.
            due.is("add twice, cell " + cell, store.orders(0, 1), 2);
            // abb: 7, bab: 7, bba: 407.
            due.is("set twice, cell " + cell, store.orders(1, 1), 3);
        }
        TwiceOnce counts = Due.with("new 0;set 0 0", "get 0");
        counts.row(0, 0, 0);
        counts.row(1, 0, 0);
        due.is("COUNTS are not named", counts.orders(0, 1), 3);
        TwiceOnce now = Due.with("max 0 x", "get 0");
        now.row(0, 5, 0);
        now.row(1, 0, 0);
        now.call(0, 9, 0, 0);
        due.is("all begin as it is now", now.orders(0, 1), 3);
        due.is("and it stays so", now.about(0, 0), 9);
    }

    /** Row of a, which counts, and b, which asks how often a came since, and makes that 0. */
    private static TwiceOnce countingRow(String behindTheAsk) {
        TwiceOnce t = Due.with("ask 1 0;" + behindTheAsk, "add 0 x;get 0;if 1 x;set 0 0");
        t.row(1, 1, 0);
        t.row(0, 0, 0);
        return t;
    }

    private static void heapsOfActs() {
        due.part("ACTS OUTSIDE (done in it; as a heap: how often each number)");
        // Once: ab leaves 0, ba leaves 1. With a twice aab leaves 0, aba 1, baa 2: aab may be like
        // ab, where b is told 1, not 2; aba like ba, where b is told 0, not 1.
        TwiceOnce t = countingRow("set 0 r;if 0 2;do 7;do 8;if 0 1;do 7;set 0 0");
        due.is("8 7 and 7 8", t.orders(0, 1), 1);
        change(t, 0, "ask 1 0;do r;do 1;do 2");
        due.is("1 1 2 and 2 1 2", t.orders(0, 1), 0);
        change(t, 0, "ask 1 0;set 0 r;if 0 1;do 3;do 3;set 0 0");
        due.is("3 3 and 3", t.orders(0, 1), 0);
        change(t, 0, "ask 1 0;set 0 r;if 0 2;do 3;do 3;set 0 0");
        due.is("3 and 3 3; but aba is like ba", t.orders(0, 1), 1);
        change(t, 0, "ask 1 0;do 3;do 3");
        t.call(0, 0, 0, 0);
        due.is("3 3 and 3 3", t.orders(0, 1), 2);
        change(t, 0, "ask 1 0");
        due.is("none and none", t.orders(0, 1), 2);
        change(t, 0, "ask 1 0;set 0 r;if 0 2;do 0;set 0 0");
        due.is("none and 0; but aba is like ba", t.orders(0, 1), 1);
        change(t, 0, "ask 1 0;set 0 r;if 0 1;do 0;set 0 0");
        due.is("0 and none", t.orders(0, 1), 0);
        change(t, 0, "ask 1 0;set 0 r;if 0 2;do 999;do 0;if 0 1;do 999;set 0 0");
        due.is("0 999 and 999 0", t.orders(0, 1), 1);
        // The last cell is 9 and 1 is done, or the other way round.
        TwiceOnce last = Due.with("ask 4 0;set 0 r;if 0 1;ask 5 9;if 0 2;ask 5 1;set 0 0", "get 0",
                "get 0", "get 0", "add 0 x;get 0;if 1 x;set 0 0", "set 3 x;if 3 9;do 1;if 3 1;do 9");
        last.row(4, 1, 0);
        last.row(0, 0, 0);
        due.is("a cell is no act", last.orders(0, 1), 0);
        heapsOfManyActs();
    }

    private static void everyOrder() {
        due.part("ORDERS: like some order in which each comes once");
        // The cells keep the latest four x: no two orders of four end alike.
        String latestFour = "get 2;set 3 r;get 1;set 2 r;get 0;set 1 r;set 0 x";
        TwiceOnce t = Due.with(latestFour);
        int[] unkeyed = {0, 0, 24};
        int[] keyed = {3, 12, 60};
        t.row(0, 1, 1);
        for (int n = 2; n <= 4; n++) {
            t.row(0, n, n);
            for (int place = 0; place < n; place++) {
                // Of five the first one is forgotten: it must be the one that comes twice.
                t.mend(0, KEYED, 0);
                due.is("of " + n + ", place " + place, t.orders(place, 1), unkeyed[n - 2]);
                t.mend(0, KEYED, 1);
                due.is("of " + n + ", place " + place, t.orders(place, 1), keyed[n - 2]);
            }
        }
        TwiceOnce zero = Due.with("add 0 500", "get 0");
        zero.row(0, 0, 0);
        zero.row(1, 0, 0);
        due.is("twice 500 is as nothing, but no order ends so", zero.orders(0, 1), 0);
    }

    private static void heapsOfManyActs() {
        String sixAsks = "ask 5 x;ask 5 x;ask 5 x;ask 5 x;ask 5 x;ask 5 x";
        TwiceOnce t = Due.with(sixAsks, "get 0", "get 0", "get 0", "get 0",
                "do x;do 4;do 3;do x;do 2;do 1;do x;do 0");
        for (int x = 1; x <= 4; x++) {
            t.row(0, x, x);
        }
        due.is("192 once, 240 with one twice", t.orders(0, 1), 0);
        t.mend(0, KEYED, 1);
        due.is("192 both times", t.orders(0, 1), 60);
        due.is("192 both times", t.orders(3, 1), 60);
    }

    private static void holdsZeroToTwenty() {
        due.part("HOLD ENOUGH: the least HOLD 0 .. 20; none");
        TwiceOnce zero = Due.with("set 0 1");
        due.is("an empty row", zero.enough(), 0);
        zero.row(0, 0, 0);
        due.is("safe without keys", zero.enough(), 0);
        zero.hold(0, 99);
        due.is("whatever it is now", zero.enough(), 0);
        // Kept in tick 1, in tick n it is now: first it comes in n + 1, again in n + 2.
        for (int n = 1; n <= 20; n++) {
            TwiceOnce t = Due.with("add 0 1;add 0 1", "get 0");
            t.mend(0, KEYED, 1);
            t.hold(0, 99);
            t.call(0, 5, 9, 0);
            callMany(t, 1, n - 1);
            t.row(0, 5, 9);
            due.is("in tick " + n, t.enough(), n + 1 <= 20 ? n + 1 : NONE);
            due.is("it is 99 still", t.hold(0, n + 1), 99);
            due.is("as much is safe", t.worst(), NONE);
            t.hold(0, n);
            due.is("one less is not", t.worst() == NONE ? 0 : 1, 1);
        }
    }

    private static void holdsForGaps() {
        due.part("HOLD ENOUGH: the same for all SERVICES");
        for (int gap = 0; gap <= 5; gap++) {
            TwiceOnce t = Due.with("ask 1 x", "add 0 x", "get 0");
            t.mend(0, PASS, 1);
            t.mend(1, KEYED, 1);
            t.hold(0, 99);
            t.row(0, 1, 5);
            for (int i = 0; i < gap; i++) {
                t.row(2, 0, 0);
            }
            due.is("gap " + gap, t.enough(), gap + 1);
            due.is("of the one", t.hold(0, 99), 99);
            due.is("of the other", t.hold(1, gap), 10);
            due.is("one less", t.worst(), 100 * gap);
            t.hold(1, gap + 1);
            due.is("as much", t.worst(), NONE);
        }
    }

    // ---- 3, cheapest

    private static void cheapestMends() {
        threeCallsTwoServices();
        pricesOfMends();
        holdsAsTheyAre();
        leastAsANumber();
    }

    private static void bothCheapest(TwiceOnce t, String name, int cost, int set) {
        due.is(name + ", cost", t.cheapest(0), cost);
        due.is(name + ", set", t.cheapest(1), set);
    }

    private static void threeCallsTwoServices() {
        due.part("CHEAPEST: a ROW of 3 CALLS at most; at most 2 SERVICES are reached (more: BIG)");
        TwiceOnce t = Due.with("add 0 1", "add 0 1", "get 0", "ask 4 0", "ask 5 0", "get 0");
        bothCheapest(t, "no call", 0, 0);
        t.row(0, 1, 1);
        bothCheapest(t, "one call", 1, 1);
        t.row(1, 1, 2);
        bothCheapest(t, "two", 2, 1 + 16);
        t.row(1, 1, 3);
        bothCheapest(t, "three", 2, 1 + 16);
        t.row(1, 1, 4);
        bothCheapest(t, "four", STATE, STATE);
        t.clear();
        t.row(0, 1, 1);
        t.row(1, 1, 2);
        t.row(2, 1, 3);
        bothCheapest(t, "three services", BIG, BIG);
        t.clear();
        t.row(4, 1, 1);
        bothCheapest(t, "4 and 5", 0, 0);
        t.row(5, 1, 1);
        t.row(4, 1, 1);
        bothCheapest(t, "4 and 5", 0, 0);
        t.clear();
        t.row(3, 1, 1);
        bothCheapest(t, "3, 4 and 5", BIG, BIG);
        change(t, 3, "ask 3 0;ask 2 0;ask 5 0");
        bothCheapest(t, "asks that can't CALL reach none", 0, 0);
        change(t, 4, "if 0 1;ask 5 0");
        change(t, 3, "if 0 1;ask 4 0");
        bothCheapest(t, "that can be called, even if it is passed over", BIG, BIG);
    }

    private static void pricesOfMends() {
        due.part("MENDS have prices (0 .. 99), 1 at first");
        TwiceOnce t = Due.with("ask 1 x;add 0 1", "add 0 x");
        t.row(0, 1, 5);
        // A fall between the two adds: both KEYED, and the key passed.
        bothCheapest(t, "1 each", 3, 1 + 4 + 16);
        t.price(0, 99);
        t.price(2, 99);
        bothCheapest(t, "the most", 297, 1 + 4 + 16);
        t.price(0, 100);
        t.price(4, 0);
        bothCheapest(t, "refused ones change nothing", 297, 1 + 4 + 16);
        t.price(0, 0);
        t.price(2, 0);
        bothCheapest(t, "the least", 0, 1 + 4 + 16);
        t.mend(0, KEYED, 1);
        bothCheapest(t, "what is on is not added", 0, 4 + 16);
        t.price(2, 7);
        bothCheapest(t, "one price", 7, 4 + 16);
        due.is("mends stay", t.mend(0, KEYED, 1), 1);
        due.is("mends stay", t.mend(0, PASS, 0), 0);
        due.is("mends stay", t.mend(1, KEYED, 0), 0);
        t.clear();
        t.row(0, 1, 0);
        bothCheapest(t, "no set is enough", NONE, NONE);
    }

    private static void holdsAsTheyAre() {
        due.part("CHEAPEST: additions alone, all else as it is");
        TwiceOnce t = Due.with("add 0 1", "get 0");
        t.row(0, 1, 5);
        t.row(1, 1, 6);
        t.hold(0, 1);
        bothCheapest(t, "HOLD 1: a gap of one is too long", NONE, NONE);
        t.hold(0, 2);
        bothCheapest(t, "HOLD 2", 1, 1);
        t.call(0, 2, 5, 0);
        bothCheapest(t, "nothing was kept", 1, 1);
        t.mend(0, KEYED, 1);
        t.call(0, 1, 5, 0);
        // Kept in tick 2: answered in tick 3, over in tick 5.
        bothCheapest(t, "kept, but not long enough", NONE, NONE);
        t.hold(0, 3);
        bothCheapest(t, "kept up to tick 5", 0, 0);
    }

    private static void leastAsANumber() {
        due.part("of several the least as a number (bit 4 s + m)");
        for (int s = 0; s <= 5; s++) {
            TwiceOnce t = Due.with("get 0", "get 0", "get 0", "get 0", "get 0", "get 0");
            change(t, s, "do x");
            t.row(s, 1, 5);
            bothCheapest(t, "KEYED or EQUAL", 1, 1 << 4 * s);
            t.price(KEYED, 2);
            bothCheapest(t, "EQUAL is cheaper", 1, 8 << 4 * s);
            t.price(EQUAL, 2);
            bothCheapest(t, "both cost 2", 2, 1 << 4 * s);
            t.price(KEYED, 0);
            t.price(EQUAL, 0);
            t.price(FIRST, 0);
            t.price(PASS, 0);
            bothCheapest(t, "for nothing no more than is needed", 0, 1 << 4 * s);
            t.mend(s, EQUAL, 1);
            bothCheapest(t, "it is safe as it is", 0, 0);
        }
        for (int upper = 1; upper <= 5; upper++) {
            TwiceOnce far = Due.with("get 0", "get 0", "get 0", "get 0", "get 0", "get 0");
            change(far, upper, "add 0 1");
            far.row(0, 1, 5);
            far.row(upper, 1, 5);
            bothCheapest(far, "0 is reached, " + upper + " is mended", 1, 1 << 4 * upper);
            change(far, 0, "do 2;add 0 1");
            far.mend(0, KEYED, 1);
            far.price(EQUAL, 3);
            bothCheapest(far, "0 and " + upper, 4, 8 + (1 << 4 * upper));
        }
        // KEYED of the one that asks is enough, or that of the asked one with PASS: 1 or 4 + 16.
        TwiceOnce t = Due.with("ask 1 x", "add 0 x");
        t.row(0, 1, 5);
        bothCheapest(t, "the asker's is cheaper", 1, 1);
        t.price(PASS, 0);
        bothCheapest(t, "both cost the same", 1, 1);
        // Now KEYED of the asker would keep the key of a call that fell ahead of the add.
        t.mend(0, FIRST, 1);
        bothCheapest(t, "the asked one's", 1, 4 + 16);
    }

    // ---- 4

    private static void logs() {
        twentyCalls();
        stillOrNot();
        readers();
    }

    private static void twentyCalls() {
        due.part("a LOG are the latest 20 CALLS from outside");
        TwiceOnce t = Due.with("ask 1 x", "get 0");
        due.is("none", t.log(0, 0), NONE);
        for (int i = 1; i <= 20; i++) {
            t.call(i % 2, i, 100 - i * 5 < 0 ? 0 : 100 - i * 5, 0);
            due.is("asks are none of it", t.count(4), i);
            due.is("the oldest", t.log(0, 1), 1);
            due.is("the latest", t.log(i - 1, 1), i);
            due.is("no more", t.log(i, 1), NONE);
        }
        t.call(0, 21, 99, 0);
        due.is("20", t.count(4), 20);
        due.is("the oldest goes", t.log(0, 1), 2);
        due.is("the latest", t.log(19, 0), 0);
        due.is("the latest", t.log(19, 1), 21);
        due.is("with its key", t.log(19, 2), 99);
        due.is("no 21st", t.log(20, 1), NONE);
        t.call(2, 0, 0, 0);
        t.call(0, 1000, 0, 0);
        t.row(0, 5, 5);
        t.worst();
        t.again();
        due.is("refused ones and trials are none of it", t.log(19, 1), 21);
        due.is("reset tells them", t.reset(), 20);
        due.is("none", t.log(0, 0), NONE);
        due.is("none", t.reset(), 0);
    }

    private static void stillOrNot() {
        due.part("STILL if all STORES and COUNTS are as now, and nothing was done OUTSIDE");
        for (int s = 0; s <= 5; s++) {
            for (int cell = 0; cell <= 3; cell++) {
                TwiceOnce t = Due.with("get 0", "get 0", "get 0", "get 0", "get 0", "get 0");
                change(t, s, "add " + cell + " x");
                t.call(s, 0, 0, 0);
                due.is("nothing more", t.again(), 1);
                t.call(s, 1, 0, 0);
                due.is("one more in " + s + " " + cell, t.again(), 0);
                due.is("nothing is changed", t.about(s, cell), 1);
                t.call(s, 999, 0, 0);
                due.is("1 and 999", t.again(), 1);
            }
            TwiceOnce t = Due.with("get 0", "get 0", "get 0", "get 0", "get 0", "get 0");
            change(t, s, "new 0;set 0 0");
            t.call(s, 0, 0, 0);
            due.is("the count of " + s, t.again(), 0);
            change(t, s, "do 0");
            due.is("an act outside", t.again(), 0);
            change(t, s, "get 0");
            due.is("as the program is now", t.again(), 1);
        }
        stillWithTwenty();
    }

    private static void stillWithTwenty() {
        due.part("AGAIN: the whole LOG is done once more");
        TwiceOnce t = Due.with("do 1", "get 0");
        t.call(0, 0, 0, 0);
        due.is("the only one", t.again(), 0);
        callMany(t, 1, 19);
        due.is("the oldest of 20", t.again(), 0);
        callMany(t, 1, 1);
        due.is("it is not of the LOG any more", t.again(), 1);
        t.call(0, 0, 0, 1);
        due.is("one that fell is done whole", t.again(), 0);
        TwiceOnce keys = Due.with("add 0 1", "get 0");
        keys.mend(0, KEYED, 1);
        keys.call(0, 1, 9, 0);
        // In tick n all n calls are done once more: the first one in tick n + 1.
        for (int n = 2; n <= 12; n++) {
            callMany(keys, 1, 1);
            due.is("in tick " + n, keys.again(), n <= 10 ? 1 : 0);
        }
        TwiceOnce much = Due.with("ask 1 0;ask 1 0;ask 1 0;ask 1 0;ask 1 0;ask 1 0",
                "do 1;do 2;do 3;do 4;do 5;do 6;do 7;do 8");
        callMany(much, 0, 20);
        due.is("960 acts outside", much.again(), 0);
        due.is("none is counted", much.count(2), 960);
        due.is("none is kept", much.outside(39), 1);
    }

    private static void readers() {
        due.part("READER: no ACT is set, add, max, new, do; asks READERS alone");
        String[] words = {"set 0 0", "add 0 0", "max 0 0", "new 0", "get 0", "ask 1 0", "do 0", "if 0 0"};
        int[] reads = {0, 0, 0, 0, 1, 1, 0, 1};
        for (int w = 0; w < words.length; w++) {
            for (int place = 0; place < 8; place++) {
                String text = "get 0;".repeat(place) + words[w] + ";get 0".repeat(7 - place);
                TwiceOnce t = Due.with(text, "get 0");
                due.is("'" + text + "'", t.about(0, 7), reads[w]);
                due.is("the asked one", t.about(1, 7), 1);
            }
            TwiceOnce chain = Due.with("ask 1 0", "ask 2 0", "ask 3 0", "ask 4 0", "ask 5 0", words[w]);
            for (int s = 0; s <= 5; s++) {
                due.is(s + " asks for " + words[w], chain.about(s, 7), reads[w]);
            }
        }
        TwiceOnce later = Due.with("ask 1 0");
        due.is("asks no one", later.about(0, 7), 1);
        Due.service(later, "do 0");
        due.is("asks one that is none", later.about(0, 7), 0);
        change(later, 1, "ask 0 0");
        due.is("asks one that asks no one", later.about(0, 7), 1);
    }

    // ---- an object

    private static void callsOfAnObject() {
        due.part("an object is used for at most 512 calls");
        TwiceOnce t = new TwiceOnce();
        t.feed(0x6e65772030L, 5);
        t.service();
        for (int i = 1; i <= 509; i++) {
            due.is("call " + i, t.call(0, 0, 0, 0), i);
        }
        due.is("the 512th call", t.count(3), 509);
        TwiceOnce much = Due.with("ask 1 0;ask 1 0;ask 1 0;ask 1 0;ask 1 0;ask 1 0;do x",
                "do 1;do 2;do 3;do 4;do 5;do 6;do 7;do 8");
        // 14 calls were used up to here.
        for (int i = 0; i < 490; i++) {
            much.call(0, i, 0, 0);
        }
        due.is("49 acts each", much.count(2), 490 * 49);
        due.is("the latest", much.outside(0), 489);
        due.is("the 40th", much.outside(39), 2);
        due.is("the log", much.log(0, 1), 470);
        due.is("again", much.again(), 0);
    }
}
