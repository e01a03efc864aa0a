import java.util.Arrays;

/** Each promise of the document: ordinary inputs, edges, wrong inputs. */
public final class PromiseTest {
    private static final Due due = new Due();
    private static final int LEAST = Integer.MIN_VALUE, MOST = Integer.MAX_VALUE;
    private static final int PROMISES = 24;

    private PromiseTest() {
    }

    /** All promises, or those whose numbers are told. */
    public static void main(String[] args) {
        for (int n = 1; n <= PROMISES; n++) {
            if (args.length > 0 && !Arrays.asList(args).contains(Integer.toString(n))) {
                continue;
            }
            int askedBefore = due.asked();
            promise(n);
            due.part("promise " + n);
            due.is("has a test of its own", due.asked() > askedBefore ? 1 : 0, 1);
        }
        due.end();
    }

    private static void promise(int n) {
        switch (n) {
            case 1:
                newObject();
                break;
            case 2:
                feed();
                break;
            case 3:
                serviceWords();
                serviceFaults();
                serviceFull();
                sixServices();
                break;
            case 4:
                change();
                break;
            case 5:
                mend();
                break;
            case 6:
                hold();
                break;
            case 7:
                set();
                break;
            case 8:
                about();
                reader();
                break;
            case 9:
                act();
                break;
            case 10:
                callActs();
                callAsk();
                callLimits();
                callRefusals();
                keyed();
                keyedRoom();
                keyedHold();
                first();
                pass();
                equal();
                equalKnows();
                falls();
                break;
            case 11:
                outside();
                break;
            case 12:
                row();
                break;
            case 13:
                clear();
                break;
            case 14:
                free();
                break;
            case 15:
                safe();
                trialsChangeNothing();
                break;
            case 16:
                worst();
                break;
            case 17:
                orders();
                ordersCompare();
                break;
            case 18:
                enough();
                break;
            case 19:
                price();
                break;
            case 20:
                cheapest();
                cheapestChoice();
                break;
            case 21:
                again();
                break;
            case 22:
                log();
                break;
            case 23:
                reset();
                break;
            case 24:
                count();
                break;
            default:
                break;
        }
    }

    private static void newObject() {
        due.part("promise 1");
        TwiceOnce t = new TwiceOnce();
        for (int what = 0; what <= 5; what++) {
            due.is("count", t.count(what), 0);
        }
        for (int m = 0; m < 4; m++) {
            due.is("price", t.price(m, 1), 1);
        }
        due.is("free", t.free(0), 0);
        due.is("worst", t.worst(), TwiceOnce.NONE);
        due.is("enough", t.enough(), 0);
        due.is("cheapest 0", t.cheapest(0), 0);
        due.is("cheapest 1", t.cheapest(1), 0);
        due.is("again", t.again(), 1);
        due.is("outside", t.outside(0), TwiceOnce.NONE);
        due.is("log", t.log(0, 0), TwiceOnce.NONE);
        due.is("about", t.about(0, 0), TwiceOnce.NONE);
        TwiceOnce s = Due.with("get 0");
        for (int what = 0; what <= 5; what++) {
            due.is("about", s.about(0, what), 0);
        }
        for (int m = 0; m < 4; m++) {
            due.is("mend", s.mend(0, m, 0), 0);
        }
        due.is("hold", s.hold(0, 10), 10);
    }

    private static void feed() {
        due.part("promise 2");
        TwiceOnce t = new TwiceOnce();
        due.is("feed n 0", t.feed(1L, 0), TwiceOnce.BAD);
        due.is("feed n 9", t.feed(1L, 9), TwiceOnce.BAD);
        due.is("feed n least", t.feed(1L, LEAST), TwiceOnce.BAD);
        due.is("feed n most", t.feed(1L, MOST), TwiceOnce.BAD);
        due.is("count", t.count(5), 0);
        // "get 2" in the lowest five bytes; what is above them is no matter.
        due.is("feed", t.feed(0xffffff6765742032L, 5), 5);
        due.is("service", t.service(), 0);
        due.is("act", t.act(0, 0, 1), 2);
        for (int i = 1; i <= 12; i++) {
            due.is("feed", t.feed(0L, 8), 8 * i);
        }
        due.is("feed 101", t.feed(0L, 5), TwiceOnce.FULL);
        due.is("feed 9 ahead of full", t.feed(0L, 9), TwiceOnce.BAD);
        due.is("count", t.count(5), 96);
        due.is("feed 100", t.feed(0L, 4), 100);
        due.is("feed 101", t.feed(0L, 1), TwiceOnce.FULL);
        due.is("feed n 0", t.feed(0L, 0), TwiceOnce.BAD);
        due.is("count", t.count(5), 100);
    }

    private static void reads(String text) {
        TwiceOnce t = new TwiceOnce();
        due.is("'" + text + "'", Due.service(t, text), 0);
        due.is("tape behind '" + text + "'", t.count(5), 0);
    }

    private static void faults(String text, int fault) {
        TwiceOnce t = new TwiceOnce();
        due.is("'" + text + "'", Due.service(t, text), -10 - fault);
        due.is("tape behind '" + text + "'", t.count(5), 0);
        due.is("services behind '" + text + "'", t.count(0), 0);
    }

    private static void serviceWords() {
        due.part("promise 3, programs");
        for (String text : new String[] {"set 0 0", "add 3 999", "max 1 x", "new 2", "get 3",
            "ask 5 r", "ask 0 00", "do 007", "do x", "if 3 12", "new 0;new 1;new 2;new 3",
            "do 1;do 2;do 3;do 4;do 5;do 6;do 7;do 8",
            "add 0 111;add 1 222;add 2 333;add 3 444;set 0 555;set 1 666;max 2 777;if 3 888"}) {
            reads(text);
        }
    }

    private static void serviceFaults() {
        due.part("promise 3, faults");
        faults("", 0);
        faults(" ", 0);
        faults(";", 0);
        faults("S", 0);
        faults("s", 1);
        faults("se", 2);
        faults("sex 0 1", 2);
        faults("set", 3);
        faults("sets 0 1", 3);
        faults("set ", 4);
        faults("set  0 1", 4);
        faults("set 4 1", 4);
        faults("set x 1", 4);
        faults("set 0", 5);
        faults("set 0;", 5);
        faults("set 00 1", 5);
        faults("set 0 ", 6);
        faults("set 0 -1", 6);
        faults("set 0 y", 6);
        faults("set 0 1234", 9);
        faults("set 0 1x", 7);
        faults("set 0 xx", 7);
        faults("set 0 r1", 7);
        faults("set 0 1 ", 7);
        faults("set 0 1; get 0", 8);
        faults("set 0 1;", 8);
        faults("set 0 1;;", 8);
        faults("as", 2);
        faults("ad", 2);
        faults("abs 0 1", 1);
        faults("ask 6 1", 4);
        faults("ask 5", 5);
        faults("ask 5 1;ask", 11);
        faults("d", 1);
        faults("do", 2);
        faults("do ", 3);
        faults("doo 1", 2);
        faults("do 1 2", 4);
        faults("i", 1);
        faults("if", 2);
        faults("if 0", 4);
        faults("if 4 0", 3);
        faults("iff 0 0", 2);
        faults("new", 3);
        faults("new 4", 4);
        faults("new 0 1", 5);
        faults("get 0 x", 5);
        faults("max 0 x;mix 0 x", 9);
        faults("get 0;" + (char) 231 + "et 0", 6);
        faults("do 1;do 2;do 3;do 4;do 5;do 6;do 7;do 8;", 39);
        faults("do 1;do 2;do 3;do 4;do 5;do 6;do 7;do 8;do 9", 39);
        faults("do 1;do 2;do 3;do 4;do 5;do 6;do 7;do 8 ", 39);
    }

    private static void serviceFull() {
        due.part("promise 3, full");
        TwiceOnce t = new TwiceOnce();
        for (int s = 0; s < 6; s++) {
            due.is("service", Due.service(t, "do " + s), s);
            if (s < 5) {
                due.is("a fault takes no number", Due.service(t, "no"), -11);
            }
        }
        due.is("service without a tape", t.service(), TwiceOnce.FULL);
        due.is("service", Due.service(t, "no"), TwiceOnce.FULL);
        due.is("the tape stays", t.count(5), 2);
        due.is("services", t.count(0), 6);
    }

    private static void change() {
        due.part("promise 4");
        TwiceOnce t = Due.with("new 0;get 0");
        t.mend(0, 0, 1);
        t.hold(0, 30);
        due.is("call", t.call(0, 1, 5, 0), 1);
        Due.feed(t, "get 0;add 1 x;get 1");
        due.is("change of none", t.change(1), TwiceOnce.NONE);
        due.is("change of -1", t.change(-1), TwiceOnce.NONE);
        due.is("the tape stays", t.count(5), 19);
        due.is("change", t.change(0), 3);
        due.is("the tape is empty", t.count(5), 0);
        due.is("acts", t.about(0, 6), 3);
        due.is("act", t.act(0, 1, 0), 1);
        due.is("cell", t.about(0, 0), 1);
        due.is("count", t.about(0, 4), 1);
        due.is("keys", t.about(0, 5), 1);
        due.is("kept answer", t.call(0, 1, 5, 0), 1);
        due.is("new program", t.call(0, 7, 6, 0), 7);
        Due.feed(t, "get 0;get 4");
        due.is("fault", t.change(0), -20);
        due.is("the tape is empty", t.count(5), 0);
        due.is("fault of nothing", t.change(0), -10);
        due.is("old program stays", t.about(0, 6), 3);
        due.is("mend stays", t.mend(0, 0, 1), 1);
        due.is("hold stays", t.hold(0, 1), 30);
        due.is("services", t.count(0), 1);
        changeLeavesTheRest();
    }

    private static void changeLeavesTheRest() {
        TwiceOnce t = Due.with("set 0 x;do x", "get 0");
        t.mend(0, 3, 1);
        t.call(0, 5, 0, 0);
        t.row(0, 6, 7);
        t.set(0, 0, 0);
        Due.feed(t, "set 0 x;do 6;get 0");
        due.is("change", t.change(0), 3);
        due.is("the other service", t.about(1, 6), 1);
        due.is("row", t.count(1), 1);
        due.is("outside", t.outside(0), 5);
        due.is("ticks", t.count(3), 1);
        due.is("log", t.log(0, 1), 5);
        due.is("what EQUAL knows", t.call(0, 5, 0, 0), 0);
        due.is("another act is done", t.outside(0), 6);
    }

    private static void mend() {
        due.part("promise 5");
        TwiceOnce t = Due.with("get 0", "get 1");
        for (int m = 0; m < 4; m++) {
            due.is("on", t.mend(1, m, 1), 0);
            due.is("on again", t.mend(1, m, 1), 1);
            due.is("the other service", t.mend(0, m, 0), 0);
            due.is("off", t.mend(1, m, 0), 1);
            due.is("off again", t.mend(1, m, 0), 0);
        }
        t.mend(1, 2, 1);
        due.is("another mend", t.mend(1, 1, 1), 0);
        due.is("it stays", t.mend(1, 2, 1), 1);
        due.is("no service", t.mend(2, 0, 1), TwiceOnce.NONE);
        due.is("no service", t.mend(-1, 0, 1), TwiceOnce.NONE);
        due.is("no mend", t.mend(0, 4, 1), TwiceOnce.NONE);
        due.is("no mend", t.mend(0, -1, 1), TwiceOnce.NONE);
        due.is("none ahead of bad", t.mend(0, 4, 2), TwiceOnce.NONE);
        due.is("none ahead of bad", t.mend(MOST, 0, 2), TwiceOnce.NONE);
        due.is("bad", t.mend(0, 0, 2), TwiceOnce.BAD);
        due.is("bad", t.mend(0, 0, -1), TwiceOnce.BAD);
        due.is("nothing changed", t.mend(0, 0, 0), 0);
    }

    private static void hold() {
        due.part("promise 6");
        TwiceOnce t = Due.with("get 0", "get 1");
        due.is("hold", t.hold(0, 99), 10);
        due.is("hold", t.hold(0, 0), 99);
        due.is("the other service", t.hold(1, 3), 10);
        due.is("no service", t.hold(2, 3), TwiceOnce.NONE);
        due.is("none ahead of bad", t.hold(-1, 100), TwiceOnce.NONE);
        due.is("bad", t.hold(0, 100), TwiceOnce.BAD);
        due.is("bad", t.hold(0, -1), TwiceOnce.BAD);
        due.is("nothing changed", t.hold(0, 1), 0);
    }

    private static void set() {
        due.part("promise 7");
        TwiceOnce t = Due.with("get 3", "get 3");
        due.is("set", t.set(0, 3, 999), 0);
        due.is("set", t.set(0, 3, 0), 999);
        due.is("set", t.set(0, 3, 17), 0);
        due.is("cell", t.about(0, 3), 17);
        due.is("call", t.call(0, 0, 0, 0), 17);
        due.is("the other service", t.about(1, 3), 0);
        due.is("the other cell", t.about(0, 2), 0);
        due.is("no service", t.set(2, 0, 0), TwiceOnce.NONE);
        due.is("no cell", t.set(0, 4, 0), TwiceOnce.NONE);
        due.is("no cell", t.set(0, -1, 0), TwiceOnce.NONE);
        due.is("none ahead of bad", t.set(0, 4, 1000), TwiceOnce.NONE);
        due.is("bad", t.set(0, 3, 1000), TwiceOnce.BAD);
        due.is("bad", t.set(0, 3, -1), TwiceOnce.BAD);
        due.is("nothing changed", t.about(0, 3), 17);
    }

    private static void about() {
        due.part("promise 8");
        TwiceOnce t = Due.with("set 0 4;set 1 5;set 2 6;new 3;new 3;get 0");
        t.mend(0, 0, 1);
        t.hold(0, 1);
        due.is("call", t.call(0, 0, 9, 0), 4);
        int[] want = {4, 5, 6, 2, 2, 1, 6, 0};
        for (int what = 0; what < 8; what++) {
            due.is("about " + what, t.about(0, what), want[what]);
        }
        t.hold(0, 0);
        due.is("not over in its own tick", t.about(0, 5), 1);
        t.call(0, 0, 0, 0);
        t.hold(0, 99);
        due.is("over and gone", t.about(0, 5), 0);
        due.is("no what", t.about(0, 8), TwiceOnce.NONE);
        due.is("no what", t.about(0, -1), TwiceOnce.NONE);
        due.is("no service", t.about(1, 0), TwiceOnce.NONE);
        due.is("no service", t.about(LEAST, 0), TwiceOnce.NONE);
        keysOverWithoutACall();
    }

    private static void keysOverWithoutACall() {
        TwiceOnce t = Due.with("get 0", "get 0");
        t.mend(0, 0, 1);
        t.call(0, 0, 9, 0);
        t.call(1, 0, 0, 0);
        t.call(1, 0, 0, 0);
        due.is("kept", t.about(0, 5), 1);
        t.hold(0, 1);
        due.is("over in the tick of now", t.about(0, 5), 0);
        t.hold(0, 2);
        due.is("not gone before a call begins", t.about(0, 5), 1);
        t.hold(0, 1);
        t.call(1, 0, 0, 0);
        t.hold(0, 99);
        due.is("gone", t.about(0, 5), 0);
    }

    private static void reader() {
        due.part("promise 8, readers");
        String[] writes = {"set 0 0", "add 0 0", "max 0 0", "new 0", "do 0"};
        for (String text : writes) {
            due.is(text, Due.with(text).about(0, 7), 0);
            due.is(text + " behind", Due.with("get 0;if 0 1;" + text).about(0, 7), 0);
            TwiceOnce t = Due.with("ask 1 0", "get 0;ask 2 0", text);
            due.is("asks for " + text, t.about(0, 7), 0);
            due.is("asks for " + text, t.about(1, 7), 0);
        }
        TwiceOnce t = Due.with("ask 1 x;get 0", "if 0 0;ask 2 r", "get 0");
        for (int s = 0; s < 3; s++) {
            due.is("reader " + s, t.about(s, 7), 1);
        }
        TwiceOnce both = Due.with("ask 1 x;ask 2 x", "get 0", "get 0");
        due.is("asks for two readers", both.about(0, 7), 1);
        due.is("asks for one reader", Due.with("ask 1 x;ask 2 x", "new 0", "get 0").about(0, 7), 0);
        due.is("an ask that does nothing", Due.with("add 0 1", "ask 0 0;ask 1 0;ask 5 0").about(1, 7),
                1);
    }

    private static void act() {
        due.part("promise 9");
        TwiceOnce t = Due.with("set 1 20;add 2 x;max 3 r;new 3;get 2;ask 5 007;do r;if 1 999", "do x");
        int[][] want = {{0, 1, 20}, {1, 2, 1000}, {2, 3, 1001}, {3, 3, 0}, {4, 2, 0}, {5, 5, 7},
            {6, 0, 1001}, {7, 1, 999}};
        for (int i = 0; i < 8; i++) {
            for (int what = 0; what < 3; what++) {
                due.is("act " + i + " " + what, t.act(0, i, what), want[i][what]);
            }
        }
        due.is("the other service", t.act(1, 0, 2), 1000);
        due.is("no act", t.act(0, 8, 0), TwiceOnce.NONE);
        due.is("no act", t.act(1, 1, 0), TwiceOnce.NONE);
        due.is("no act", t.act(0, -1, 0), TwiceOnce.NONE);
        due.is("no what", t.act(0, 0, 3), TwiceOnce.NONE);
        due.is("no what", t.act(0, 0, -1), TwiceOnce.NONE);
        due.is("no service", t.act(2, 0, 0), TwiceOnce.NONE);
        due.is("no service", t.act(-1, 0, 0), TwiceOnce.NONE);
    }

    private static void callActs() {
        due.part("promise 10, acts");
        due.is("answer 0 at first", Due.with("set 0 5").call(0, 1, 0, 0), 0);
        TwiceOnce t = Due.with("set 0 x;add 0 998;get 0");
        due.is("modulo", t.call(0, 7, 0, 0), 5);
        TwiceOnce max = Due.with("max 0 x;get 0");
        due.is("max", max.call(0, 7, 0, 0), 7);
        due.is("max of less", max.call(0, 3, 0, 0), 7);
        due.is("max of more", max.call(0, 999, 0, 0), 999);
        TwiceOnce fresh = Due.with("new 2");
        for (int i = 1; i < 4; i++) {
            due.is("new", fresh.call(0, 0, 0, 0), i);
            due.is("its cell", fresh.about(0, 2), i);
        }
        TwiceOnce r = Due.with("set 0 r;get 1;add 0 r;do r;set 2 r;get 0");
        r.set(0, 0, 50);
        r.set(0, 1, 8);
        due.is("r", r.call(0, 0, 0, 0), 8);
        due.is("r", r.outside(0), 8);
        due.is("r", r.about(0, 2), 8);
        TwiceOnce c = Due.with("if 0 x;set 1 1;if 0 0;if 1 1;set 2 1;if 3 9");
        due.is("if", c.call(0, 5, 0, 0), 0);
        due.is("passed over", c.about(0, 1), 0);
        due.is("not passed over, but by the second if", c.about(0, 2), 0);
        c.set(0, 0, 5);
        c.call(0, 5, 0, 0);
        due.is("not passed over", c.about(0, 1), 1);
        due.is("an if that is passed over", c.about(0, 2), 1);
        TwiceOnce wraps = Due.with("new 0;new 0;new 0;new 0;new 0;new 0;new 0;new 0",
                "ask 2 0;ask 2 0;ask 2 0;ask 2 0;ask 2 0;ask 2 0", "new 0;new 0;new 0;new 0");
        for (int i = 0; i < 124; i++) {
            wraps.call(0, 0, 0, 0);
        }
        due.is("count", wraps.about(0, 4), 992);
        due.is("count modulo", wraps.call(0, 0, 0, 0), 0);
        due.is("count modulo", wraps.call(0, 0, 0, 0), 8);
    }

    private static void callAsk() {
        due.part("promise 10, ask");
        TwiceOnce t = Due.with("get 0;ask 1 x;set 1 r", "add 0 x;get 0", "new 0;ask 1 5;ask 2 5;ask 3 5");
        due.is("call", t.call(0, 4, 0, 0), 4);
        due.is("answer of the asked", t.about(0, 1), 4);
        due.is("call", t.call(0, 4, 0, 0), 8);
        due.is("asked store", t.about(1, 0), 8);
        due.is("asks that do nothing leave the answer", t.call(2, 0, 0, 0), 1);
        due.is("asked store", t.about(1, 0), 8);
        due.is("one tick each", t.count(3), 3);
        TwiceOnce chain = Due.with("ask 1 x", "ask 2 x", "ask 3 x", "ask 4 x", "ask 5 x", "set 0 x;get 0");
        due.is("chain", chain.call(0, 77, 0, 0), 77);
        TwiceOnce later = Due.with("get 0;ask 1 3");
        due.is("no one there yet", later.call(0, 0, 0, 0), 0);
        Due.service(later, "set 0 x;get 0");
        due.is("now there is", later.call(0, 0, 0, 0), 3);
    }

    private static void callLimits() {
        due.part("promise 10, 60 acts");
        // 4 asks of 14 acts each: 60 in all; one more breaks off.
        String six = "do 1;do 2;do 3;do 4;do 5;do 6";
        TwiceOnce t = Due.with("ask 1 0;ask 1 0;ask 1 0;ask 1 0", "ask 2 0;" + six + ";get 0", six);
        due.is("60 acts", t.call(0, 0, 0, 0), 0);
        due.is("outside", t.count(2), 48);
        Due.feed(t, "ask 1 0;ask 1 0;ask 1 0;ask 1 0;new 0");
        t.change(0);
        due.is("61 acts", t.call(0, 0, 0, 0), -2);
        due.is("outside", t.count(2), 96);
        due.is("the 61st is not done", t.about(0, 4), 0);
        due.is("fall at 61", t.call(0, 0, 0, 61), -2);
        due.is("fall at 99", t.call(0, 0, 0, 99), -2);
        due.is("fall at 60", t.call(0, 0, 0, 60), -2);
        Due.feed(t, "ask 1 0;ask 1 0;ask 1 0;ask 1 0");
        t.change(0);
        due.is("fall at 60 of 60", t.call(0, 0, 0, 60), -2);
        due.is("fall at 61 of 60", t.call(0, 0, 0, 61), 0);
        t.mend(0, 0, 1);
        Due.feed(t, "ask 1 0;ask 1 0;ask 1 0;ask 1 0;new 0");
        t.change(0);
        due.is("61 acts", t.call(0, 0, 5, 0), -2);
        due.is("no key is kept", t.about(0, 5), 0);
    }

    private static void callRefusals() {
        due.part("promise 10, refusals");
        TwiceOnce t = Due.with("new 0");
        due.is("none", t.call(1, 0, 0, 0), -3);
        due.is("none", t.call(-1, 0, 0, 0), -3);
        due.is("none ahead of bad", t.call(1, 1000, 100, 100), -3);
        due.is("x", t.call(0, 1000, 0, 0), -4);
        due.is("x", t.call(0, -1, 0, 0), -4);
        due.is("key", t.call(0, 0, 100, 0), -4);
        due.is("key", t.call(0, 0, -1, 0), -4);
        due.is("fall", t.call(0, 0, 0, 100), -4);
        due.is("fall", t.call(0, 0, 0, -1), -4);
        due.is("no tick", t.count(3), 0);
        due.is("no log", t.count(4), 0);
        due.is("edges", t.call(0, 999, 99, 99), 1);
    }

    private static void keyed() {
        due.part("promise 10, keyed");
        TwiceOnce t = Due.with("add 0 x;do x;new 1", "ask 2 x;set 0 r", "add 0 1;get 0");
        due.is("no mend", t.call(0, 1, 5, 0), 1);
        due.is("nothing is kept", t.about(0, 5), 0);
        t.mend(0, 0, 1);
        due.is("done", t.call(0, 1, 5, 0), 2);
        due.is("answered", t.call(0, 1, 5, 0), 2);
        due.is("refused", t.call(0, 2, 5, 0), -1);
        due.is("it does nothing", t.about(0, 0), 2);
        due.is("it does nothing", t.count(2), 2);
        due.is("ticks go by", t.count(3), 4);
        due.is("key 0", t.call(0, 1, 0, 0), 3);
        due.is("key 0 is not kept", t.about(0, 5), 1);
        due.is("another key", t.call(0, 1, 6, 0), 4);
        due.is("keys", t.about(0, 5), 2);
        due.is("no act comes, so no fall", t.call(0, 1, 6, 1), 4);
        t.mend(0, 0, 0);
        due.is("off", t.call(0, 1, 6, 0), 5);
        due.is("keys stay", t.about(0, 5), 2);
        t.mend(0, 0, 1);
        due.is("on again", t.call(0, 1, 6, 0), 4);
    }

    private static void keyedRoom() {
        due.part("promise 10, keyed, 16 keys");
        TwiceOnce t = Due.with("new 0");
        t.mend(0, 0, 1);
        t.hold(0, 99);
        for (int k = 1; k <= 16; k++) {
            due.is("call", t.call(0, 0, k, 0), k);
        }
        due.is("16", t.about(0, 5), 16);
        due.is("the oldest is there", t.call(0, 0, 1, 0), 1);
        due.is("one more", t.call(0, 0, 17, 0), 17);
        due.is("16", t.about(0, 5), 16);
        due.is("the second is there", t.call(0, 0, 2, 0), 2);
        due.is("the newest is there", t.call(0, 0, 17, 0), 17);
        due.is("the oldest is gone", t.call(0, 0, 1, 0), 18);
        due.is("now the second is gone", t.call(0, 0, 2, 0), 19);
        due.is("the 16th is there", t.call(0, 0, 16, 0), 16);
        TwiceOnce x = Due.with("new 0");
        x.mend(0, 0, 1);
        x.hold(0, 17);
        for (int k = 1; k <= 17; k++) {
            x.call(0, 100 + k, k, 0);
        }
        due.is("all with their x", x.call(0, 102, 2, 0), 2);
        due.is("all with their x", x.call(0, 103, 2, 0), -1);
        due.is("all with their ticks", x.about(0, 5), 16);
        x.call(0, 0, 0, 0);
        due.is("tick 20: the one of tick 2 is over", x.about(0, 5), 15);
    }

    private static void keyedHold() {
        due.part("promise 10, keyed, hold");
        TwiceOnce t = Due.with("new 0", "get 0");
        t.mend(0, 0, 1);
        t.hold(0, 2);
        due.is("tick 1", t.call(0, 0, 5, 0), 1);
        t.call(1, 0, 0, 0);
        due.is("tick 3", t.call(0, 0, 5, 0), 1);
        due.is("tick 4", t.call(0, 0, 5, 0), 2);
        t.hold(0, 0);
        due.is("hold 0", t.call(0, 0, 5, 0), 3);
        due.is("hold 0", t.call(0, 0, 5, 0), 4);
        t.hold(0, 1);
        due.is("hold 1", t.call(0, 0, 5, 0), 4);
        due.is("an answer does not keep it anew", t.call(0, 0, 5, 0), 5);
        TwiceOnce some = Due.with("new 0", "new 0");
        some.mend(0, 0, 1);
        some.mend(1, 0, 1);
        some.hold(0, 2);
        some.hold(1, 3);
        some.call(0, 11, 1, 0);
        some.call(0, 12, 2, 0);
        some.call(1, 13, 1, 0);
        due.is("of the other service", some.call(1, 13, 1, 0), 1);
        due.is("the first is over", some.about(0, 5), 1);
        due.is("the second is not", some.hold(0, 3), 2);
        due.is("its x", some.call(0, 11, 2, 0), -1);
        some.hold(0, 4);
        due.is("its answer", some.call(0, 12, 2, 0), 2);
        due.is("its tick", some.about(0, 5), 1);
        due.is("over", some.call(0, 12, 2, 0), 3);
        due.is("done anew", some.call(0, 11, 1, 0), 4);
    }

    private static void first() {
        due.part("promise 10, first");
        TwiceOnce t = Due.with("add 0 1;get 0");
        t.mend(0, 1, 1);
        due.is("first alone", t.call(0, 0, 5, 0), 1);
        due.is("keeps nothing", t.about(0, 5), 0);
        t.mend(0, 0, 1);
        due.is("done", t.call(0, 0, 5, 0), 2);
        due.is("answered at its end", t.call(0, 0, 5, 0), 2);
        due.is("refused", t.call(0, 1, 5, 0), -1);
        due.is("fall at 1", t.call(0, 0, 6, 1), -2);
        due.is("kept at its begin", t.about(0, 5), 2);
        due.is("with answer 0", t.call(0, 0, 6, 0), 0);
        due.is("with its x", t.call(0, 1, 6, 0), -1);
        due.is("nothing was done", t.about(0, 0), 2);
        t.mend(0, 1, 0);
        due.is("fall without first", t.call(0, 0, 7, 2), -2);
        due.is("what was done stays", t.about(0, 0), 3);
        due.is("it is not kept", t.about(0, 5), 2);
        due.is("comes again", t.call(0, 0, 7, 0), 4);
    }

    private static void pass() {
        due.part("promise 10, pass");
        TwiceOnce t = Due.with("get 0;ask 1 x;ask 1 x", "new 0");
        t.mend(1, 0, 1);
        due.is("no key is passed", t.call(0, 3, 98, 0), 2);
        due.is("no key is kept", t.about(1, 5), 0);
        t.mend(0, 2, 1);
        due.is("two keys are passed", t.call(0, 3, 98, 0), 4);
        due.is("both are kept", t.about(1, 5), 2);
        due.is("answered", t.call(0, 3, 98, 0), 4);
        // (98 + 7) modulo 99 is 6, (98 + 14) modulo 99 is 13, and 1 more.
        due.is("first passed key", t.call(1, 3, 7, 0), 3);
        due.is("second passed key", t.call(1, 3, 14, 0), 4);
        due.is("refused inside", t.call(0, 4, 98, 0), -1);
        due.is("keys", t.about(1, 5), 2);
        due.is("without a key none is passed", t.call(0, 3, 0, 0), 6);
        due.is("keys", t.about(1, 5), 2);
        due.is("key 1 is passed", t.call(0, 3, 1, 0), 8);
        due.is("keys", t.about(1, 5), 4);
        due.is("key 1 passes 9 at place 1", t.call(1, 3, 9, 0), 7);
        TwiceOnce wrong = Due.with("ask 1 x;do r;get 0;ask 1 9", "new 0");
        wrong.mend(0, 2, 1);
        wrong.mend(1, 0, 1);
        wrong.call(1, 5, 3, 0);
        due.is("key 2 passes 3 at place 0", wrong.call(0, 4, 2, 0), 2);
        due.is("r of a refused ask", wrong.outside(0), 0);
        // Place 3 passes (2 + 21) modulo 99 and 1 more.
        due.is("key of place 3", wrong.call(1, 9, 24, 0), 2);
        passAlongAChain();
    }

    private static void passAlongAChain() {
        TwiceOnce t = Due.with("get 0;ask 1 x", "ask 2 x", "new 0");
        t.mend(2, 0, 1);
        t.mend(1, 2, 1);
        due.is("not by the PASS of the asked one", t.call(0, 3, 10, 0), 1);
        due.is("keys", t.about(2, 5), 0);
        t.mend(0, 2, 1);
        due.is("passed twice", t.call(0, 3, 10, 0), 2);
        due.is("keys", t.about(2, 5), 1);
        // 10 passes (10 + 7) modulo 99 and 1 more, which passes 18 modulo 99 and 1 more.
        due.is("the key of a key", t.call(2, 3, 19, 0), 2);
        due.is("answered along the chain", t.call(0, 3, 10, 0), 2);
        due.is("refused along the chain", t.call(0, 4, 10, 0), -1);
        t.mend(1, 2, 0);
        due.is("0 is passed from there on", t.call(0, 3, 10, 0), 3);
        due.is("keys", t.about(2, 5), 1);
    }

    private static void equal() {
        due.part("promise 10, equal");
        TwiceOnce t = Due.with("set 0 x;max 1 x;do x;add 2 1;new 3;get 0");
        t.mend(0, 3, 1);
        due.is("call", t.call(0, 5, 0, 0), 5);
        t.set(0, 0, 1);
        t.set(0, 1, 1);
        due.is("set is not done", t.call(0, 5, 0, 0), 1);
        due.is("max is not done", t.about(0, 1), 1);
        due.is("do is not done", t.count(2), 1);
        due.is("add is done", t.about(0, 2), 2);
        due.is("new is done", t.about(0, 4), 2);
        due.is("it came all the same", t.call(0, 5, 0, 0), 1);
        due.is("another x", t.call(0, 6, 0, 0), 6);
        due.is("do", t.count(2), 2);
        due.is("the first x again", t.call(0, 5, 0, 0), 5);
        due.is("do", t.count(2), 3);
        due.is("another key", t.call(0, 5, 8, 0), 5);
        due.is("do", t.count(2), 4);
        due.is("the same key", t.call(0, 5, 8, 0), 5);
        due.is("do", t.count(2), 4);
        t.mend(0, 3, 0);
        t.call(0, 5, 8, 0);
        due.is("off", t.count(2), 5);
        // Known are words, C and V as a number: here r differs, then it is the same.
        TwiceOnce r = Due.with("get 0;do r;add 0 x");
        r.mend(0, 3, 1);
        r.call(0, 1, 0, 0);
        r.call(0, 1, 0, 0);
        due.is("another number", r.count(2), 2);
        r.set(0, 0, 1);
        r.call(0, 1, 0, 0);
        due.is("the same number", r.count(2), 2);
        Due.feed(r, "get 0;do 1;add 0 x");
        r.change(0);
        r.set(0, 0, 3);
        r.call(0, 1, 0, 0);
        due.is("the same act of another program", r.count(2), 2);
        Due.feed(r, "do 1;do 1;set 0 1;set 0 1");
        r.change(0);
        r.call(0, 1, 0, 0);
        due.is("another place", r.count(2), 3);
        Due.feed(r, "do 1;do 1;set 1 1;max 0 1");
        r.change(0);
        r.set(0, 0, 0);
        r.call(0, 1, 0, 0);
        due.is("another C", r.about(0, 1), 1);
        due.is("another word", r.about(0, 0), 1);
        equalNot("set 2 5", "max 0 5", 0);
        equalNot("set 0 5", "set 1 4", 1);
        equalNot("set 0 5", "set 0 4", 0);
        equalNot("max 3 5", "set 3 5", 3);
        equalNot("do 5", "set 0 5", 0);
    }

    /** An act at the place of another one is done, however near they are. */
    private static void equalNot(String one, String other, int cell) {
        TwiceOnce t = Due.with(one);
        t.mend(0, 3, 1);
        t.call(0, 1, 2, 0);
        t.set(0, cell, 0);
        Due.feed(t, other);
        t.change(0);
        t.call(0, 1, 2, 0);
        due.is(one + ", " + other, t.about(0, cell), other.charAt(other.length() - 1) - '0');
    }

    private static void equalKnows() {
        due.part("promise 10, equal, what is known");
        TwiceOnce t = Due.with("if 0 0;do 1;do 2", "ask 2 x", "do 7");
        t.call(0, 5, 0, 0);
        t.mend(0, 3, 1);
        t.call(0, 5, 0, 0);
        due.is("known from before it was on", t.count(2), 2);
        t.set(0, 0, 1);
        t.call(0, 5, 0, 0);
        t.set(0, 0, 0);
        t.call(0, 5, 0, 0);
        due.is("passed over ones did not come", t.outside(0), 1);
        due.is("all", t.count(2), 3);
        t.call(0, 5, 0, 3);
        t.call(0, 5, 0, 0);
        due.is("one that fell is the latest", t.outside(0), 2);
        due.is("all", t.count(2), 4);
        t.call(0, 6, 0, 1);
        t.call(0, 5, 0, 0);
        due.is("one that fell at once, too", t.count(2), 6);
        t.mend(2, 3, 1);
        t.call(1, 9, 0, 0);
        t.call(1, 9, 0, 0);
        due.is("asked", t.count(2), 7);
        t.call(2, 9, 0, 0);
        due.is("asked or from outside", t.count(2), 7);
        TwiceOnce k = Due.with("do x");
        k.mend(0, 0, 1);
        k.mend(0, 3, 1);
        k.call(0, 1, 4, 0);
        k.call(0, 2, 0, 0);
        k.call(0, 1, 4, 0);
        k.call(0, 3, 4, 0);
        k.call(0, 2, 0, 0);
        due.is("answered and refused ones are not known", k.count(2), 2);
    }

    private static void falls() {
        due.part("promise 10, falls");
        TwiceOnce t = Due.with("add 0 1;if 1 1;add 0 1;ask 1 x;add 2 1", "add 0 1;add 0 1;get 0");
        t.mend(0, 0, 1);
        t.mend(1, 0, 1);
        t.mend(0, 2, 1);
        int[] cell0 = {0, 0, 1, 1, 1, 1, 1, 1, 1};
        int[] cell2 = {1, 0, 0, 0, 0, 0, 0, 0, 1};
        int[] asked = {2, 0, 0, 0, 0, 1, 2, 2, 2};
        int[] keysOfAsked = {1, 0, 0, 0, 0, 0, 0, 1, 1};
        for (int fall = 0; fall <= 8; fall++) {
            t.reset();
            cell0[0] = 1;
            boolean falls = fall >= 1 && fall <= 7;
            due.is("answer " + fall, t.call(0, 1, 5, fall), falls ? -2 : 2);
            due.is("cell 0 " + fall, t.about(0, 0), cell0[fall]);
            due.is("cell 2 " + fall, t.about(0, 2), cell2[fall]);
            due.is("asked " + fall, t.about(1, 0), asked[fall]);
            due.is("its keys " + fall, t.about(1, 5), keysOfAsked[fall]);
            due.is("keys " + fall, t.about(0, 5), falls ? 0 : 1);
        }
    }

    private static void outside() {
        due.part("promise 11");
        TwiceOnce t = Due.with("do x", "do 1;do 2;do x;ask 0 1");
        due.is("none", t.outside(0), TwiceOnce.NONE);
        t.call(1, 3, 0, 0);
        due.is("latest", t.outside(0), 3);
        due.is("before it", t.outside(1), 2);
        due.is("first", t.outside(2), 1);
        due.is("none", t.outside(3), TwiceOnce.NONE);
        due.is("none", t.outside(-1), TwiceOnce.NONE);
        due.is("none", t.outside(MOST), TwiceOnce.NONE);
        for (int x = 0; x < 40; x++) {
            t.call(0, 100 + x, 0, 0);
        }
        for (int i = 0; i < 40; i++) {
            due.is("outside " + i, t.outside(i), 139 - i);
        }
        due.is("40 are kept", t.outside(40), TwiceOnce.NONE);
        due.is("all are counted", t.count(2), 43);
        TwiceOnce many = Due.with("do 1;do 2;do 3;do 4;do 5;do 6;do 7;do x");
        for (int x = 0; x < 100; x++) {
            many.call(0, x, 0, 0);
        }
        due.is("count", many.count(2), 800);
        due.is("latest", many.outside(0), 99);
        due.is("earlier", many.outside(32), 95);
        due.is("earliest", many.outside(39), 1);
        due.is("none", many.outside(40), TwiceOnce.NONE);
    }

    private static void row() {
        due.part("promise 12");
        TwiceOnce t = Due.with("get 0");
        due.is("no service", t.row(1, 0, 0), TwiceOnce.NONE);
        due.is("no service", t.row(-1, 0, 0), TwiceOnce.NONE);
        due.is("none ahead of bad", t.row(1, 1000, 0), TwiceOnce.NONE);
        due.is("x", t.row(0, 1000, 0), TwiceOnce.BAD);
        due.is("x", t.row(0, -1, 0), TwiceOnce.BAD);
        due.is("key", t.row(0, 0, 100), TwiceOnce.BAD);
        due.is("key", t.row(0, 0, -1), TwiceOnce.BAD);
        due.is("nothing changed", t.count(1), 0);
        for (int i = 1; i <= 6; i++) {
            due.is("row", t.row(0, i % 2 * 999, i % 2 * 99), i);
        }
        due.is("full", t.row(0, 0, 0), TwiceOnce.FULL);
        due.is("bad ahead of full", t.row(0, 1000, 0), TwiceOnce.BAD);
        due.is("none ahead of full", t.row(9, 0, 0), TwiceOnce.NONE);
        due.is("count", t.count(1), 6);
        due.is("no tick", t.count(3), 0);
    }

    private static void clear() {
        due.part("promise 13");
        TwiceOnce t = Due.with("add 0 1");
        due.is("clear", t.clear(), 0);
        t.row(0, 0, 0);
        t.row(0, 0, 0);
        due.is("worst", t.worst(), 0);
        due.is("clear", t.clear(), 2);
        due.is("clear", t.clear(), 0);
        due.is("count", t.count(1), 0);
        due.is("worst", t.worst(), TwiceOnce.NONE);
        due.is("row", t.row(0, 0, 0), 1);
    }

    private static void free() {
        due.part("promise 14");
        TwiceOnce t = Due.with("get 0;set 0 x");
        due.is("bad", t.free(2), TwiceOnce.BAD);
        due.is("bad", t.free(-1), TwiceOnce.BAD);
        t.row(0, 5, 0);
        due.is("the second answer differs", t.safe(0, 0, 0), 0);
        due.is("free", t.free(1), 0);
        due.is("free", t.free(1), 1);
        due.is("answers are free", t.safe(0, 0, 0), 1);
        due.is("worst", t.worst(), TwiceOnce.NONE);
        due.is("bad", t.free(7), TwiceOnce.BAD);
        due.is("not free", t.free(0), 1);
        due.is("worst", t.worst(), 0);
        // Only what comes again is free: an answer of another call still counts.
        TwiceOnce o = Due.with("add 0 1;set 0 1;get 1", "get 0;ask 2 0", "new 0;set 0 0;get 0");
        o.free(1);
        o.row(0, 0, 0);
        due.is("like", o.safe(0, 0, 0), 1);
        TwiceOnce a = Due.with("set 0 x;get 1;set 1 7");
        a.free(1);
        a.row(0, 3, 0);
        a.row(0, 3, 0);
        due.is("like", a.safe(1, 0, 0), 1);
        TwiceOnce b = Due.with("get 0;if 0 1;set 0 2;if 0 0;set 0 1");
        b.free(1);
        b.row(0, 0, 0);
        b.row(0, 0, 0);
        // Once: 0, 1. Twice: 0, (1), 2; the store is 2 both times.
        due.is("the answer of the other call", b.safe(0, 0, 0), 0);
        due.is("the last one", b.safe(1, 0, 0), 1);
    }

    private static void safe() {
        due.part("promise 15");
        TwiceOnce t = Due.with("set 0 x;get 0", "get 0;ask 2 1", "add 0 x");
        due.is("empty row", t.safe(0, 0, 0), TwiceOnce.NONE);
        t.row(0, 1, 0);
        t.row(0, 2, 0);
        t.row(0, 2, 0);
        due.is("no place", t.safe(3, 0, 0), TwiceOnce.NONE);
        due.is("no place", t.safe(-1, 0, 0), TwiceOnce.NONE);
        due.is("none ahead of bad", t.safe(3, -1, 100), TwiceOnce.NONE);
        due.is("gap", t.safe(0, 3, 0), TwiceOnce.BAD);
        due.is("gap", t.safe(2, 1, 0), TwiceOnce.BAD);
        due.is("gap", t.safe(0, -1, 0), TwiceOnce.BAD);
        due.is("gap", t.safe(1, MOST, 0), TwiceOnce.BAD);
        due.is("fall", t.safe(0, 0, 100), TwiceOnce.BAD);
        due.is("fall", t.safe(0, 0, -1), TwiceOnce.BAD);
        due.is("at once", t.safe(0, 0, 0), 1);
        due.is("behind another, mended by a third", t.safe(0, 1, 0), 1);
        due.is("at the end", t.safe(0, 2, 0), 0);
        due.is("at the end, fallen", t.safe(0, 2, 1), 0);
        due.is("the second", t.safe(1, 1, 99), 1);
        t.clear();
        t.row(1, 0, 0);
        due.is("a helper's store", t.safe(0, 0, 0), 0);
        due.is("a fall ahead of it", t.safe(0, 0, 2), 1);
        due.is("a fall inside ahead of its act", t.safe(0, 0, 3), 1);
        due.is("no fall", t.safe(0, 0, 4), 0);
        TwiceOnce count = Due.with("new 0;set 0 0;get 0");
        count.row(0, 0, 0);
        due.is("counts are compared", count.safe(0, 0, 0), 0);
        TwiceOnce out = Due.with("do x", "do 1", "do 2");
        out.row(0, 1, 0);
        due.is("acts outside are compared", out.safe(0, 0, 0), 0);
        due.is("a fall ahead of them", out.safe(0, 0, 1), 1);
        out.row(0, 2, 0);
        due.is("in their order", out.safe(0, 1, 1), 0);
        due.is("in their order", out.safe(0, 0, 1), 1);
        TwiceOnce same = Due.with("if 1 0;do 1;do 2;set 1 1");
        same.row(0, 0, 0);
        same.row(0, 0, 0);
        due.is("once: 1 2 2; twice: 1 2 2 2", same.safe(0, 1, 0), 0);
        due.is("once: 1 2 2; twice: 1 (fall) 1 2 2", same.safe(0, 0, 3), 0);
        // What is done before the row is no matter, and the state of now is the begin.
        out.call(0, 9, 0, 0);
        due.is("behind another act", out.safe(0, 0, 1), 1);
        TwiceOnce keys = Due.with("add 0 x");
        keys.row(0, 1, 5);
        due.is("unkeyed", keys.safe(0, 0, 0), 0);
        keys.mend(0, 0, 1);
        due.is("keyed", keys.safe(0, 0, 0), 1);
        keys.call(0, 2, 5, 0);
        due.is("refused both times", keys.safe(0, 0, 0), 1);
        keys.hold(0, 0);
        due.is("not held", keys.safe(0, 0, 0), 0);
        safeFromNow();
        safeOfOthersThatFall();
    }

    private static void safeFromNow() {
        TwiceOnce kept = Due.with("add 0 x;get 0");
        kept.mend(0, 0, 1);
        kept.call(0, 7, 1, 0);
        kept.call(0, 8, 2, 0);
        kept.row(0, 8, 2);
        kept.hold(0, 2);
        // Tick 3 comes first, tick 4 again: up to then the key of tick 2 is kept.
        due.is("answered both times", kept.safe(0, 0, 1), 1);
        kept.row(0, 8, 2);
        due.is("over at the end", kept.safe(0, 1, 0), 0);
        TwiceOnce known = Due.with("set 0 x;get 0;set 0 9");
        known.mend(0, 3, 1);
        known.row(0, 1, 4);
        due.is("nothing known yet: answers 1, 9", known.safe(0, 0, 0), 0);
        known.call(0, 1, 4, 0);
        due.is("known: answers 9, 9", known.safe(0, 0, 0), 1);
        known.call(0, 1, 5, 0);
        due.is("another key is known", known.safe(0, 0, 0), 0);
        known.call(0, 2, 4, 0);
        due.is("another x is known", known.safe(0, 0, 0), 0);
        TwiceOnce lone = Due.with("get 0;set 0 1;do r;get 0");
        lone.row(0, 0, 0);
        due.is("the first act outside differs", lone.safe(0, 0, 3), 0);
        due.is("no difference yet", lone.safe(0, 0, 2), 1);
    }

    private static void safeOfOthersThatFall() {
        // The flag of service 2 is 1 when b comes, or 2; then b asks for more than 60 acts. The
        // last call, with x 9, makes the flag 0.
        String eight = "ask 3 0;ask 3 0;ask 3 0;ask 3 0;ask 3 0;ask 3 0;ask 3 0;ask 3 0";
        String gets = "get 0;get 0;get 0;get 0;get 0;get 0;get 0;get 0";
        TwiceOnce t = Due.with("ask 2 0;if 1 r;ask 1 0;get 0", eight,
                "add 0 x;if 0 10;set 0 0;if 0 11;set 0 0;get 0", gets);
        t.free(1);
        t.row(2, 1, 0);
        t.row(0, 0, 0);
        t.row(2, 9, 0);
        t.set(0, 1, 3);
        due.is("never", t.safe(0, 0, 0), 1);
        t.set(0, 1, 2);
        due.is("falls if the first comes twice", t.safe(0, 0, 0), 0);
        due.is("not if it comes again behind", t.safe(0, 1, 0), 1);
        t.set(0, 1, 1);
        due.is("falls if the first comes once", t.safe(0, 0, 0), 0);
    }

    private static void worst() {
        due.part("promise 16");
        TwiceOnce t = Due.with("set 0 x", "add 0 x", "set 0 1;set 1 1;set 2 1;set 3 1;if 0 9;do 1;do 2",
                "get 0;get 0;get 0;get 0;get 0;add 0 1");
        due.is("empty", t.worst(), TwiceOnce.NONE);
        t.row(0, 1, 0);
        due.is("safe", t.worst(), TwiceOnce.NONE);
        t.row(0, 2, 0);
        due.is("gap 1", t.worst(), 100);
        t.clear();
        t.row(0, 1, 0);
        t.row(0, 1, 0);
        t.row(0, 1, 0);
        t.row(0, 1, 0);
        t.row(0, 1, 0);
        due.is("safe", t.worst(), TwiceOnce.NONE);
        t.row(0, 2, 0);
        due.is("gap 5", t.worst(), 500);
        t.clear();
        t.row(0, 1, 0);
        t.row(0, 1, 0);
        t.row(0, 2, 0);
        due.is("gap 2", t.worst(), 200);
        t.clear();
        t.row(0, 1, 0);
        t.row(0, 1, 0);
        t.row(1, 1, 0);
        due.is("another service's store", t.worst(), 2000);
        t.clear();
        t.row(0, 1, 0);
        t.row(2, 0, 0);
        due.is("place 1, all falls safe but 0", t.worst(), 1000);
        t.clear();
        t.row(0, 0, 0);
        t.row(1, 0, 0);
        t.row(1, 1, 0);
        due.is("place 2", t.worst(), 2000);
        t.clear();
        t.row(1, 1, 7);
        t.mend(1, 0, 1);
        due.is("keyed is safe", t.worst(), TwiceOnce.NONE);
        Due.feed(t, "add 0 1;add 0 1");
        t.change(1);
        due.is("but for a fall between", t.worst(), 2);
        Due.feed(t, "get 1;get 1;get 1;add 0 1;set 1 1;set 1 2");
        t.change(1);
        due.is("fall 5", t.worst(), 5);
        Due.feed(t, "get 1;get 1;get 1;get 1;add 0 1;set 1 1;set 1 2");
        t.change(1);
        due.is("a fall at 6 is not looked at", t.worst(), TwiceOnce.NONE);
        due.is("but by safe", t.safe(0, 0, 6), 0);
    }

    private static void orders() {
        due.part("promise 17");
        TwiceOnce t = Due.with("set 0 x", "add 0 1");
        due.is("empty row", t.orders(0, 0), TwiceOnce.NONE);
        t.row(0, 1, 0);
        due.is("one call", t.orders(0, 0), TwiceOnce.STATE);
        due.is("none ahead of state", t.orders(1, 0), TwiceOnce.NONE);
        due.is("none ahead of state", t.orders(0, 2), TwiceOnce.NONE);
        t.row(0, 2, 0);
        due.is("two calls", t.orders(0, 0), 3);
        due.is("two calls", t.orders(1, 0), 3);
        due.is("all end with 1 or 2", t.orders(0, 1), 3);
        due.is("no place", t.orders(2, 0), TwiceOnce.NONE);
        due.is("no place", t.orders(-1, 0), TwiceOnce.NONE);
        due.is("no what", t.orders(0, -1), TwiceOnce.NONE);
        due.is("no what", t.orders(0, 2), TwiceOnce.NONE);
        t.row(1, 0, 0);
        due.is("three calls", t.orders(0, 0), 12);
        due.is("set comes twice", t.orders(0, 1), 12);
        due.is("add comes twice", t.orders(2, 1), 0);
        t.row(1, 0, 0);
        due.is("four calls", t.orders(3, 0), 60);
        due.is("none ends likewise", t.orders(3, 1), 0);
        t.row(1, 0, 0);
        due.is("five calls", t.orders(3, 0), TwiceOnce.STATE);
        due.is("none ahead of state", t.orders(5, 0), TwiceOnce.NONE);
        t.row(1, 0, 0);
        due.is("six calls", t.orders(5, 1), TwiceOnce.STATE);
    }

    private static void ordersCompare() {
        due.part("promise 17, what is compared");
        TwiceOnce heap = Due.with("if 0 0;do x;set 0 x");
        heap.row(0, 1, 0);
        heap.row(0, 0, 0);
        // Once: ab does 1, the cell is 0; ba does 0 1, the cell is 1.
        // aab does 1, cell 0; aba does 1 1, cell 1; baa does 0 1, cell 1.
        due.is("heaps", heap.orders(0, 1), 2);
        // abb does 1 0, cell 0: the heap of one order, the store of another; bab, too; bba does 0 0 1.
        due.is("one order for both", heap.orders(1, 1), 0);
        TwiceOnce counts = Due.with("new 0;set 0 0;get 0", "get 0");
        counts.row(0, 0, 0);
        counts.row(1, 0, 0);
        due.is("counts and answers are not compared", counts.orders(0, 1), 3);
        TwiceOnce often = Due.with("do x", "do x");
        often.row(0, 1, 0);
        often.row(1, 2, 0);
        due.is("how often each", often.orders(0, 1), 0);
        often.mend(0, 3, 1);
        due.is("equal holds it back", often.orders(0, 1), 3);
        due.is("the other one", often.orders(1, 1), 0);
        TwiceOnce keys = Due.with("add 0 x");
        keys.row(0, 1, 1);
        keys.row(0, 2, 2);
        keys.row(0, 4, 3);
        due.is("unkeyed", keys.orders(1, 1), 0);
        keys.mend(0, 0, 1);
        due.is("keyed", keys.orders(1, 1), 12);
        keys.hold(0, 1);
        // Only those twelve less the ones with a call between more than one tick: at a distance of
        // 1 tick there are 6 orders.
        due.is("hold 1", keys.orders(1, 1), 6);
        keys.hold(0, 2);
        due.is("hold 2", keys.orders(1, 1), 10);
        due.is("nothing is changed", keys.about(0, 0), 0);
        ordersOfAFlag();
        ordersOfMuch();
    }

    private static void ordersOfAFlag() {
        // a adds 1 to the flag, b tells it, c adds 9; 10 and 11 become 0. Once: the flag is 0 at
        // the end, and 0, 1 or 9 was told. Twice a: aabc tells 2; aacb, abac, baac end likewise; in
        // all others the flag is 1 at the end.
        String flag = "add 0 x;if 0 10;set 0 0;if 0 11;set 0 0;get 0";
        TwiceOnce t = Due.with("ask 1 0;do r", flag);
        t.row(1, 1, 0);
        t.row(0, 0, 0);
        t.row(1, 9, 0);
        due.is("the flag", t.orders(0, 1), 3);
        // Now abc does 8 7, aabc does 7 8: the same heap.
        TwiceOnce h = Due.with("ask 1 0;set 0 r;if 0 2;do 7;do 8;if 0 1;do 7;set 0 0", flag);
        h.row(1, 1, 0);
        h.row(0, 0, 0);
        h.row(1, 9, 0);
        due.is("heaps in another order", h.orders(0, 1), 4);
    }

    private static void ordersOfMuch() {
        String eight = "do 9;do 8;do 7;do 6;do 5;do 4;do 3;do x";
        String six = "ask 5 x;ask 5 x;ask 5 x;ask 5 x;ask 5 x;ask 5 x";
        TwiceOnce t = Due.with(six, "get 0", "get 0", "get 0", "get 0", eight);
        for (int key = 1; key <= 4; key++) {
            t.row(0, key, key);
        }
        due.is("48 acts each, five times", t.orders(2, 1), 0);
        t.mend(0, 0, 1);
        due.is("keyed", t.orders(2, 1), 60);
        TwiceOnce last = Due.with("get 0", "get 0", "get 0", "get 0", "get 0", "add 3 1");
        last.row(5, 0, 0);
        last.row(0, 0, 0);
        due.is("the last cell", last.orders(0, 1), 0);
        due.is("the other call", last.orders(1, 1), 3);
    }

    private static void sixServices() {
        due.part("promise 3, six services");
        TwiceOnce t = Due.with("ask 5 x", "get 0", "get 0", "get 0", "get 0", "add 3 x;do x");
        t.mend(5, 0, 1);
        t.mend(0, 2, 1);
        due.is("call", t.call(0, 4, 1, 0), 0);
        due.is("cell", t.about(5, 3), 4);
        due.is("keys", t.about(5, 5), 1);
        due.is("reader", t.about(1, 7), 1);
        due.is("no reader", t.about(0, 7), 0);
        t.row(0, 2, 3);
        due.is("a fall between", t.worst(), 3);
        due.is("enough", t.enough(), TwiceOnce.NONE);
        due.is("cheapest", t.cheapest(0), TwiceOnce.NONE);
        Due.feed(t, "add 3 x");
        due.is("change", t.change(5), 1);
        due.is("safe", t.worst(), TwiceOnce.NONE);
        due.is("enough", t.enough(), 1);
        t.mend(5, 0, 0);
        due.is("cheapest", t.cheapest(1), 1);
        t.price(0, 9);
        due.is("no other way", t.cheapest(0), 9);
        due.is("again", t.again(), 0);
        due.is("reset", t.reset(), 1);
        due.is("cell", t.about(5, 3), 0);
        due.is("keys", t.about(5, 5), 0);
        due.is("again", t.again(), 1);
    }

    private static void enough() {
        due.part("promise 18");
        TwiceOnce t = Due.with("add 0 x", "get 0");
        due.is("empty row", t.enough(), 0);
        t.row(0, 1, 5);
        due.is("no hold is enough", t.enough(), TwiceOnce.NONE);
        t.mend(0, 0, 1);
        due.is("1", t.enough(), 1);
        for (int i = 1; i <= 5; i++) {
            t.row(1, 0, 0);
            due.is("with " + i + " behind", t.enough(), 1 + i);
        }
        due.is("hold stays", t.hold(0, 0), 10);
        due.is("whatever hold is", t.enough(), 6);
        due.is("hold stays", t.hold(0, 3), 0);
        due.is("worst", t.worst(), 300);
        TwiceOnce safe = Due.with("set 0 1");
        safe.row(0, 0, 0);
        due.is("safe without", safe.enough(), 0);
        // A key of the past, tick 1, that refuses: with it both times alike, without it not.
        TwiceOnce past = Due.with("add 0 x;add 0 x", "get 0");
        past.mend(0, 0, 1);
        past.hold(0, 99);
        past.call(0, 1, 5, 0);
        for (int i = 0; i < 18; i++) {
            past.call(1, 0, 0, 0);
        }
        past.row(0, 2, 5);
        due.is("20 ticks behind", past.enough(), 20);
        past.call(1, 0, 0, 0);
        due.is("21 ticks behind", past.enough(), TwiceOnce.NONE);
        // All services have it: the helper keeps keys, not the one that is called.
        TwiceOnce helper = Due.with("ask 1 x", "add 0 1");
        helper.mend(0, 2, 1);
        helper.mend(1, 0, 1);
        helper.row(0, 1, 4);
        helper.row(0, 1, 5);
        due.is("of the helper", helper.enough(), 2);
    }

    private static void price() {
        due.part("promise 19");
        TwiceOnce t = new TwiceOnce();
        due.is("price", t.price(0, 99), 1);
        due.is("price", t.price(0, 0), 99);
        due.is("price", t.price(3, 7), 1);
        due.is("price", t.price(3, 8), 7);
        due.is("the others", t.price(2, 1), 1);
        due.is("no mend", t.price(4, 0), TwiceOnce.NONE);
        due.is("no mend", t.price(-1, 0), TwiceOnce.NONE);
        due.is("none ahead of bad", t.price(4, 100), TwiceOnce.NONE);
        due.is("bad", t.price(3, 100), TwiceOnce.BAD);
        due.is("bad", t.price(3, -1), TwiceOnce.BAD);
        due.is("nothing changed", t.price(3, 8), 8);
    }

    private static void bothCheapest(TwiceOnce t, String name, int cost, int set) {
        due.is(name + ", cost", t.cheapest(0), cost);
        due.is(name + ", set", t.cheapest(1), set);
    }

    private static void cheapest() {
        due.part("promise 20");
        TwiceOnce t = Due.with("add 0 x", "get 0", "do x");
        bothCheapest(t, "empty row", 0, 0);
        t.row(0, 1, 5);
        bothCheapest(t, "keyed", 1, 1);
        due.is("no what", t.cheapest(2), TwiceOnce.NONE);
        due.is("no what", t.cheapest(-1), TwiceOnce.NONE);
        t.price(0, 42);
        bothCheapest(t, "its price", 42, 1);
        t.mend(0, 0, 1);
        bothCheapest(t, "it is on", 0, 0);
        t.mend(0, 0, 0);
        t.row(1, 0, 0);
        bothCheapest(t, "two services", 42, 1);
        t.row(1, 0, 0);
        bothCheapest(t, "three calls", 42, 1);
        t.row(1, 0, 0);
        bothCheapest(t, "four calls", TwiceOnce.STATE, TwiceOnce.STATE);
        due.is("none ahead of state", t.cheapest(2), TwiceOnce.NONE);
        t.clear();
        t.row(0, 1, 5);
        t.row(1, 1, 5);
        t.row(2, 1, 5);
        bothCheapest(t, "three services", TwiceOnce.BIG, TwiceOnce.BIG);
        t.row(2, 1, 5);
        bothCheapest(t, "state ahead of big", TwiceOnce.STATE, TwiceOnce.STATE);
        t.clear();
        t.row(0, 1, 0);
        bothCheapest(t, "no key, no set", TwiceOnce.NONE, TwiceOnce.NONE);
        t.clear();
        t.row(2, 3, 4);
        t.row(1, 3, 4);
        // Service 2: KEYED costs 42, EQUAL 1; bit 4 * 2 + 3.
        bothCheapest(t, "of services 1 and 2", 1, 1 << 11);
        cheapestReach();
    }

    private static void cheapestReach() {
        TwiceOnce two = Due.with("ask 1 x", "add 0 x", "do 1");
        two.row(0, 1, 5);
        bothCheapest(two, "asked ones are reached", 1, 1);
        TwiceOnce three = Due.with("ask 1 x", "if 0 9;ask 2 x", "add 0 1");
        three.row(0, 1, 5);
        bothCheapest(three, "asked by asked ones", TwiceOnce.BIG, TwiceOnce.BIG);
        TwiceOnce back = Due.with("add 0 x", "ask 0 x;ask 1 x;ask 4 x;add 0 1", "get 0");
        back.row(1, 1, 5);
        back.row(2, 0, 0);
        bothCheapest(back, "asks that call no one", 1, 1 << 4);
    }

    private static void cheapestChoice() {
        due.part("promise 20, choices");
        TwiceOnce t = Due.with("do x");
        t.row(0, 1, 5);
        bothCheapest(t, "KEYED and EQUAL cost the same", 1, 1);
        t.price(0, 2);
        bothCheapest(t, "EQUAL is cheaper", 1, 8);
        t.price(0, 1);
        t.price(3, 0);
        bothCheapest(t, "for nothing", 0, 8);
        t.price(0, 0);
        bothCheapest(t, "both for nothing", 0, 1);
        t.clear();
        t.row(0, 1, 0);
        t.price(0, 1);
        t.price(3, 99);
        bothCheapest(t, "without a key", 99, 8);
        // A helper that adds, and the one that asks adds, too: a fall in between needs both keyed
        // and the key passed.
        TwiceOnce chain = Due.with("ask 1 x;add 0 1", "add 0 x");
        chain.row(0, 1, 5);
        bothCheapest(chain, "chain", 3, 1 + 4 + 16);
        chain.mend(1, 0, 1);
        bothCheapest(chain, "the helper's is on", 2, 1 + 4);
        chain.price(2, 50);
        bothCheapest(chain, "prices", 51, 1 + 4);
        chain.mend(0, 2, 1);
        bothCheapest(chain, "PASS is on", 1, 1);
        TwiceOnce free = Due.with("get 0;set 0 x;do 1");
        free.row(0, 1, 5);
        bothCheapest(free, "answers", TwiceOnce.NONE, TwiceOnce.NONE);
        free.free(1);
        bothCheapest(free, "free answers", 1, 1);
        due.is("mends stay", free.mend(0, 0, 0), 0);
        TwiceOnce last = Due.with("get 0", "get 0", "get 0", "get 0", "get 0", "do x");
        last.row(5, 1, 0);
        bothCheapest(last, "the highest bit", 1, 1 << 23);
    }

    private static void again() {
        due.part("promise 21");
        TwiceOnce t = Due.with("set 0 x;get 0", "add 0 x", "new 1;set 1 0", "do x", "max 0 x");
        due.is("empty log", t.again(), 1);
        t.call(0, 3, 0, 0);
        t.call(0, 3, 0, 0);
        due.is("still", t.again(), 1);
        t.call(0, 4, 0, 0);
        due.is("ends as now", t.again(), 1);
        t.set(0, 0, 9);
        due.is("a store differs", t.again(), 0);
        t.reset();
        t.call(1, 0, 0, 0);
        due.is("nothing is added", t.again(), 1);
        t.call(1, 1, 0, 0);
        due.is("added", t.again(), 0);
        due.is("nothing is changed", t.about(1, 0), 1);
        due.is("nothing is changed", t.count(3), 2);
        t.reset();
        t.call(2, 0, 0, 0);
        due.is("counts", t.again(), 0);
        due.is("nothing is changed", t.about(2, 4), 1);
        t.reset();
        t.call(3, 1, 0, 0);
        due.is("acts outside", t.again(), 0);
        due.is("nothing is changed", t.count(2), 1);
        t.mend(3, 3, 1);
        due.is("equal", t.again(), 1);
        t.reset();
        t.call(4, 1, 0, 0);
        t.call(4, 8, 0, 0);
        t.call(4, 3, 0, 0);
        due.is("max", t.again(), 1);
        t.call(1, 1, 0, 1);
        due.is("the fall is not of the log", t.again(), 0);
        TwiceOnce keys = Due.with("add 0 x", "get 0");
        keys.mend(0, 0, 1);
        keys.hold(0, 3);
        keys.call(0, 1, 5, 0);
        due.is("keyed", keys.again(), 1);
        keys.call(1, 0, 0, 0);
        due.is("kept", keys.again(), 1);
        keys.call(0, 1, 5, 0);
        due.is("kept up to tick 4, over in tick 6", keys.again(), 0);
        keys.hold(0, 5);
        due.is("held longer", keys.again(), 1);
        TwiceOnce old = Due.with("add 0 1", "get 0");
        old.call(0, 0, 0, 0);
        for (int i = 0; i < 19; i++) {
            old.call(1, 0, 0, 0);
        }
        due.is("the 20th is of the log", old.again(), 0);
        old.call(1, 0, 0, 0);
        due.is("the 21st is not", old.again(), 1);
    }

    private static void log() {
        due.part("promise 22");
        TwiceOnce t = Due.with("get 0", "new 0");
        due.is("none", t.log(0, 0), TwiceOnce.NONE);
        t.mend(1, 0, 1);
        t.call(0, 7, 8, 0);
        t.call(1, 9, 10, 1);
        t.call(1, 9, 10, 0);
        t.call(1, 9, 10, 0);
        t.call(1, 8, 10, 0);
        t.call(1, 1000, 0, 0);
        t.call(2, 0, 0, 0);
        due.is("falls, answered and refused ones too", t.count(4), 5);
        due.is("service", t.log(0, 0), 0);
        due.is("x", t.log(0, 1), 7);
        due.is("key", t.log(0, 2), 8);
        due.is("service", t.log(4, 0), 1);
        due.is("x", t.log(4, 1), 8);
        due.is("key", t.log(4, 2), 10);
        due.is("none", t.log(5, 0), TwiceOnce.NONE);
        due.is("none", t.log(-1, 0), TwiceOnce.NONE);
        due.is("no what", t.log(0, 3), TwiceOnce.NONE);
        due.is("no what", t.log(0, -1), TwiceOnce.NONE);
        for (int x = 100; x < 120; x++) {
            t.call(0, x, x - 100, 0);
        }
        due.is("20 at most", t.count(4), 20);
        due.is("the oldest", t.log(0, 1), 100);
        due.is("the latest", t.log(19, 1), 119);
        due.is("its key", t.log(19, 2), 19);
        due.is("another key", t.log(1, 2), 1);
        due.is("its service", t.log(0, 0), 0);
        due.is("none", t.log(20, 1), TwiceOnce.NONE);
    }

    private static void reset() {
        due.part("promise 23");
        TwiceOnce t = Due.with("add 0 x;new 1;do x", "set 3 x");
        due.is("nothing yet", t.reset(), 0);
        t.mend(0, 0, 1);
        t.hold(0, 20);
        t.price(1, 9);
        t.free(1);
        t.row(0, 1, 1);
        Due.feed(t, "get");
        for (int k = 1; k <= 25; k++) {
            t.call(0, 1, k, 0);
        }
        t.call(1, 4, 0, 0);
        due.is("reset", t.reset(), 20);
        for (int what = 0; what <= 5; what++) {
            due.is("about " + what, t.about(0, what), 0);
        }
        due.is("the other service", t.about(1, 3), 0);
        due.is("outside", t.outside(0), TwiceOnce.NONE);
        due.is("log", t.log(0, 0), TwiceOnce.NONE);
        due.is("again", t.again(), 1);
        int[] counts = {2, 1, 0, 0, 0, 3};
        for (int what = 0; what <= 5; what++) {
            due.is("count " + what, t.count(what), counts[what]);
        }
        due.is("mend stays", t.mend(0, 0, 1), 1);
        due.is("hold stays", t.hold(0, 20), 20);
        due.is("price stays", t.price(1, 9), 9);
        due.is("free stays", t.free(1), 1);
        due.is("programs stay", t.about(0, 6), 3);
        due.is("call", t.call(0, 1, 1, 0), 1);
        due.is("reset", t.reset(), 1);
        due.is("reset", t.reset(), 0);
        // What EQUAL knows is not among what reset names.
        TwiceOnce known = Due.with("set 0 x;get 0");
        known.mend(0, 3, 1);
        known.call(0, 5, 0, 0);
        known.reset();
        due.is("known still", known.call(0, 5, 0, 0), 0);
    }

    private static void count() {
        due.part("promise 24");
        TwiceOnce t = Due.with("do 1;do 2", "get 0", "get 0");
        t.row(0, 0, 0);
        t.row(0, 0, 0);
        for (int i = 0; i < 30; i++) {
            t.call(i % 2, 0, 0, 0);
        }
        Due.feed(t, "12345");
        int[] want = {3, 2, 30, 30, 20, 5};
        for (int what = 0; what <= 5; what++) {
            due.is("count " + what, t.count(what), want[what]);
        }
        due.is("none", t.count(6), TwiceOnce.NONE);
        due.is("none", t.count(-1), TwiceOnce.NONE);
    }

    private static void trialsChangeNothing() {
        due.part("promise 15, trials change nothing");
        TwiceOnce t = Due.with("add 0 x;new 1;do x;ask 1 x", "set 0 x;new 2;get 0");
        t.mend(0, 0, 1);
        t.mend(1, 3, 1);
        t.call(0, 3, 4, 0);
        t.row(0, 3, 5);
        t.row(1, 2, 6);
        for (int i = 0; i < 2; i++) {
            t.safe(0, 1, 2);
            t.worst();
            t.orders(0, 1);
            t.enough();
            t.cheapest(1);
            t.again();
        }
        int[] first = {3, 1, 0, 0, 1, 1};
        int[] second = {3, 0, 1, 0, 1, 0};
        for (int what = 0; what <= 5; what++) {
            due.is("about 0 " + what, t.about(0, what), first[what]);
            due.is("about 1 " + what, t.about(1, what), second[what]);
        }
        due.is("outside", t.count(2), 1);
        due.is("ticks", t.count(3), 1);
        due.is("log", t.count(4), 1);
        due.is("row", t.count(1), 2);
        t.set(1, 0, 8);
        due.is("what EQUAL knows", t.call(1, 3, 0, 0), 8);
        due.is("hold", t.hold(0, 10), 10);
        due.is("mend", t.mend(1, 0, 0), 0);
    }
}
