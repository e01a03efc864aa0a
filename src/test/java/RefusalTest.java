/**
 * Promise by promise: the last number that is taken, the first one that is not, which refusal comes
 * first, and that what is refused, or only asked for, changes nothing.
 */
public final class RefusalTest {
    private static final Due due = new Due();
    private static final int NONE = TwiceOnce.NONE, BAD = TwiceOnce.BAD, STATE = TwiceOnce.STATE,
            FULL = TwiceOnce.FULL, BIG = TwiceOnce.BIG;
    private static final int[] FAR = {Integer.MIN_VALUE, -1000, -1, 1000, Integer.MAX_VALUE};

    private RefusalTest() {
    }

    public static void main(String[] args) {
        feed();
        service();
        change();
        mend();
        hold();
        set();
        about();
        act();
        call();
        callAnswers();
        outside();
        row();
        clear();
        free();
        safe();
        worst();
        orders();
        enough();
        price();
        cheapest();
        again();
        log();
        reset();
        count();
        due.end();
    }

    // ---- stories

    /** No services: whatever names one is refused. */
    private static int bare(TwiceOnce t) {
        Due.feed(t, "get");
        return t.price(2, 3);
    }

    /** Three services of two acts, with something of everything. */
    private static int few(TwiceOnce t) {
        Due.service(t, "add 0 x;ask 1 x");
        Due.service(t, "new 1;do x");
        Due.service(t, "set 2 x;get 2");
        t.mend(0, 0, 1);
        t.mend(0, 2, 1);
        t.mend(1, 0, 1);
        t.mend(1, 1, 1);
        t.mend(2, 3, 1);
        t.hold(1, 5);
        t.price(0, 7);
        t.price(3, 0);
        t.set(2, 0, 12);
        t.call(0, 4, 3, 0);
        t.call(0, 5, 4, 2);
        t.call(2, 1, 0, 0);
        t.row(0, 1, 5);
        t.row(2, 1, 0);
        t.row(0, 4, 3);
        Due.feed(t, "get 3;new 2");
        return t.free(1);
    }

    /** Six services of two acts; ROW, LOG, THE TAPE and KEYS are full, OUTSIDE has more than 40. */
    private static int brim(TwiceOnce t) {
        brimWithoutTape(t);
        Due.feed(t, "do 1;do 2;do 3;" + "?".repeat(85));
        return t.count(5);
    }

    private static int brimWithoutTape(TwiceOnce t) {
        Due.service(t, "add 0 x;do x");
        Due.service(t, "do 1;new 0");
        for (int s = 2; s < 6; s++) {
            Due.service(t, "max 0 x;get 0");
        }
        t.mend(0, 0, 1);
        t.hold(0, 99);
        for (int i = 0; i < 25; i++) {
            t.call(0, i % 2, 1 + i, 0);
            t.call(1, i, 0, 0);
        }
        for (int i = 0; i < 6; i++) {
            t.row(i, i, 9 + i);
        }
        return t.price(0, 2);
    }

    private static final Twin.Use[] STORIES = {RefusalTest::bare, RefusalTest::few, RefusalTest::brim};
    private static final int[] SERVICES = {0, 3, 6};
    private static final int[] ROWS = {0, 3, 6};
    private static final int[] BYTES = {3, 11, 100};

    private static Twin twin(int story) {
        return new Twin(due, STORIES[story]);
    }

    private static TwiceOnce told(Twin.Use story) {
        TwiceOnce t = new TwiceOnce();
        story.of(t);
        return t;
    }

    private static int[] to(int most, int refusal) {
        return new int[] {0, most, refusal};
    }

    private static int[] serviceOf(int story) {
        return to(SERVICES[story] - 1, NONE);
    }

    // ---- services

    private static void feed() {
        due.part("feed: BAD: n not 1 .. 8; FULL");
        for (int n = 1; n <= 8; n++) {
            TwiceOnce t = new TwiceOnce();
            due.is("n " + n, t.feed(-1L, n), n);
            due.is("bytes", t.count(5), n);
        }
        for (int story = 0; story < 3; story++) {
            twin(story).refusesMixes("feed", new int[][] {{1, 8, BAD}}, (t, n, b, c) -> t.feed(5L, n));
        }
        for (int had = 92; had <= 100; had++) {
            feedAt(had);
        }
    }

    /** THE TAPE has as many bytes: what goes up to 100 is taken, one more is not, nor is a part. */
    private static void feedAt(int had) {
        Twin.Use story = t -> {
            few(t);
            Due.feed(t, "!".repeat(had - t.count(5)));
            return 0;
        };
        Twin twin = new Twin(due, story);
        for (int n = 1; n <= 8; n++) {
            int more = n;
            if (had + n > 100) {
                twin.asks("feed " + n + " at " + had, t -> t.feed(-1L, more), FULL);
            } else {
                due.is("feed " + n + " at " + had, told(story).feed(-1L, more), had + n);
            }
        }
        twin.asks("feed 0 at " + had, t -> t.feed(-1L, 0), BAD);
        twin.asks("feed 9 at " + had, t -> t.feed(-1L, 9), BAD);
        twin.end();
    }

    private static void service() {
        due.part("service: -10 less the FAULT; FULL (ahead of the FAULT; THE TAPE stays)");
        for (String tape : new String[] {"", "get 3", "get 4", "?".repeat(100)}) {
            Twin.Use story = t -> {
                brimWithoutTape(t);
                Due.feed(t, tape);
                return 0;
            };
            Twin twin = new Twin(due, story);
            twin.asks("a seventh of '" + tape + "'", TwiceOnce::service, FULL);
            twin.end();
            due.is("the tape stays", told(story).count(5), tape.length());
        }
        TwiceOnce t = Due.with("get 0", "get 0", "get 0", "get 0", "get 0");
        due.is("a fault", Due.service(t, "get 0;"), -16);
        due.is("it is no service", t.count(0), 5);
        due.is("the tape is empty", t.count(5), 0);
        due.is("an empty tape", t.service(), -10);
        due.is("the sixth", Due.service(t, "get 0"), 5);
        due.is("the tape is empty", t.count(5), 0);
        due.is("the seventh", t.service(), FULL);
        faultChangesTheTapeAlone();
    }

    private static void faultChangesTheTapeAlone() {
        Twin.Use emptied = t -> {
            few(t);
            return t.change(2);
        };
        Twin twin = new Twin(due, emptied);
        for (String text : new String[] {"", "g", "get 0;", "get 4", "do 1000"}) {
            twin.asks("service '" + text + "'", t -> Due.service(t, text) <= -10 ? 1 : 0, 1);
            twin.asks("change '" + text + "'", t -> {
                Due.feed(t, text);
                return t.change(0) <= -10 ? 1 : 0;
            }, 1);
        }
        twin.end();
    }

    private static void change() {
        due.part("change: NONE; -10 less the FAULT");
        for (int story = 0; story < 3; story++) {
            twin(story).refusesMixes("change", new int[][] {serviceOf(story)},
                    (t, s, b, c) -> t.change(s));
            due.is("bytes", told(STORIES[story]).count(5), BYTES[story]);
        }
        for (int s = 0; s < 3; s++) {
            TwiceOnce t = told(RefusalTest::few);
            due.is("change " + s, t.change(s), 2);
            due.is("the tape is empty", t.count(5), 0);
        }
        TwiceOnce t = told(RefusalTest::brimWithoutTape);
        Due.feed(t, "get 1");
        due.is("of the sixth", t.change(5), 1);
        due.is("there are six still", t.count(0), 6);
        due.is("its act", t.act(5, 0, 1), 1);
        due.is("it had another", t.act(5, 1, 0), NONE);
    }

    private static void mend() {
        due.part("mend: NONE; BAD");
        for (int story = 0; story < 3; story++) {
            twin(story).refusesMixes("mend", new int[][] {serviceOf(story), to(3, NONE), to(1, BAD)},
                    TwiceOnce::mend);
        }
        TwiceOnce t = told(RefusalTest::brim);
        due.is("first", t.mend(0, 0, 0), 1);
        due.is("first", t.mend(0, 0, 1), 0);
        due.is("last", t.mend(5, 3, 1), 0);
        due.is("last", t.mend(5, 3, 0), 1);
    }

    private static void hold() {
        due.part("hold: NONE; BAD");
        for (int story = 0; story < 3; story++) {
            twin(story).refusesMixes("hold", new int[][] {serviceOf(story), to(99, BAD)},
                    (t, s, ticks, c) -> t.hold(s, ticks));
        }
        TwiceOnce t = told(RefusalTest::brim);
        due.is("least", t.hold(5, 0), 10);
        due.is("most", t.hold(5, 99), 0);
        due.is("most", t.hold(5, 98), 99);
    }

    private static void set() {
        due.part("set: NONE; BAD");
        for (int story = 0; story < 3; story++) {
            twin(story).refusesMixes("set", new int[][] {serviceOf(story), to(3, NONE), to(999, BAD)},
                    TwiceOnce::set);
        }
        TwiceOnce t = told(RefusalTest::brim);
        for (int s = 0; s <= 5; s += 5) {
            for (int cell = 0; cell <= 3; cell += 3) {
                t.set(s, cell, 1);
                due.is("most", t.set(s, cell, 999), 1);
                due.is("least", t.set(s, cell, 0), 999);
                due.is("least", t.about(s, cell), 0);
            }
        }
    }

    private static void about() {
        due.part("about: what 0 .. 7; NONE");
        for (int story = 0; story < 3; story++) {
            twin(story).refusesMixes("about", new int[][] {serviceOf(story), to(7, NONE)},
                    (t, s, what, c) -> t.about(s, what));
        }
        TwiceOnce t = told(RefusalTest::brim);
        // 25 calls with x 0 and 1 in turn, each with a key of its own; the latest 16 are kept.
        int[] first = {12, 0, 0, 0, 0, 16, 2, 0};
        int[] last = {0, 0, 0, 0, 0, 0, 2, 0};
        for (int what = 0; what <= 7; what++) {
            due.is("about 0 " + what, t.about(0, what), first[what]);
            due.is("about 5 " + what, t.about(5, what), last[what]);
        }
        due.is("its count", t.about(1, 4), 25);
    }

    private static void act() {
        due.part("act: what 0 .. 2; NONE");
        for (int story = 0; story < 3; story++) {
            twin(story).refusesMixes("act", new int[][] {serviceOf(story), to(1, NONE), to(2, NONE)},
                    TwiceOnce::act);
        }
        TwiceOnce one = Due.with("if 3 r", "do 1;do 2;do 3;do 4;do 5;do 6;do 7;do 999");
        due.is("the only one", one.act(0, 0, 2), 1001);
        due.is("a second", one.act(0, 1, 2), NONE);
        due.is("the eighth", one.act(1, 7, 2), 999);
        due.is("a ninth", one.act(1, 8, 2), NONE);
        Due.feed(one, "do 5");
        one.change(1);
        due.is("the second of before", one.act(1, 1, 2), NONE);
    }

    private static void call() {
        due.part("call: -3: NONE; -4: BAD: x, key (0 .. 99), fall (0 .. 99)");
        for (int story = 0; story < 3; story++) {
            int[] s = to(SERVICES[story] - 1, -3);
            for (int fall : new int[] {0, 99}) {
                twin(story).refusesMixes("call, fall " + fall,
                        new int[][] {s, to(999, -4), to(99, -4)}, (t, a, b, c) -> t.call(a, b, c, fall));
            }
            twin(story).refusesMixes("call, x 999", new int[][] {s, to(99, -4), to(99, -4)},
                    (t, a, b, c) -> t.call(a, 999, b, c));
        }
        for (int fall : new int[] {Integer.MIN_VALUE, -1, 100, Integer.MAX_VALUE}) {
            Twin twin = twin(1);
            twin.asks("fall " + fall, t -> t.call(0, 0, 0, fall), -4);
            twin.asks("all is wrong, fall " + fall, t -> t.call(3, 1000, 100, fall), -3);
            twin.end();
        }
        TwiceOnce t = Due.with("set 0 x;get 0");
        due.is("least", t.call(0, 0, 0, 0), 0);
        due.is("most", t.call(0, 999, 99, 99), 999);
        due.is("two ticks", t.count(3), 2);
        due.is("two in the log", t.count(4), 2);
        due.is("the most of them", t.log(1, 1), 999);
        due.is("the most of them", t.log(1, 2), 99);
    }

    /** -1 and -2 are answers, not refusals: a tick goes by, and the log has the call. */
    private static void callAnswers() {
        due.part("call: ANSWERS below 0 are no refusals");
        TwiceOnce t = Due.with("add 0 1;add 0 1");
        t.mend(0, 0, 1);
        due.is("a fall", t.call(0, 5, 6, 2), -2);
        due.is("a tick", t.count(3), 1);
        due.is("in the log", t.count(4), 1);
        due.is("what was done stays", t.about(0, 0), 1);
        due.is("done", t.call(0, 5, 6, 0), 0);
        due.is("refused by KEYED", t.call(0, 4, 6, 0), -1);
        due.is("a tick", t.count(3), 3);
        due.is("in the log", t.count(4), 3);
        due.is("nothing is done", t.about(0, 0), 3);
        due.is("the key stays as it was", t.call(0, 5, 6, 0), 0);
    }

    private static void outside() {
        due.part("outside: NONE");
        int[] kept = {0, 1, 40};
        for (int story = 0; story < 3; story++) {
            twin(story).refusesMixes("outside", new int[][] {to(kept[story] - 1, NONE)},
                    (t, i, b, c) -> t.outside(i));
        }
        due.is("the only one", told(RefusalTest::few).outside(0), 4);
        TwiceOnce t = told(RefusalTest::brim);
        // Each pair of calls does its x, 0 or 1 in turn, and then 1.
        due.is("the latest", t.outside(0), 1);
        due.is("the one of the 25th x", t.outside(1), 0);
        due.is("the 40th, of the 6th x", t.outside(39), 1);
    }

    // ---- rows

    private static void row() {
        due.part("row: NONE; BAD: x, key; FULL");
        for (int story = 0; story < 3; story++) {
            twin(story).refusesMixes("row",
                    new int[][] {serviceOf(story), to(999, BAD), to(99, BAD)}, TwiceOnce::row);
        }
        Twin full = twin(2);
        for (int s = 0; s <= 5; s += 5) {
            int service = s;
            full.asks("a seventh", t -> t.row(service, 0, 0), FULL);
            full.asks("a seventh", t -> t.row(service, 999, 99), FULL);
        }
        full.asks("none ahead of full", t -> t.row(6, 0, 0), NONE);
        full.asks("bad ahead of full", t -> t.row(0, 1000, 0), BAD);
        full.asks("bad ahead of full", t -> t.row(0, 0, 100), BAD);
        full.end();
        TwiceOnce t = told(RefusalTest::few);
        due.is("the fourth", t.row(2, 0, 0), 4);
        due.is("the fifth", t.row(2, 999, 99), 5);
        due.is("the sixth", t.row(0, 999, 0), 6);
        due.is("the seventh", t.row(0, 999, 0), FULL);
        due.is("six", t.count(1), 6);
        due.is("six", t.clear(), 6);
        due.is("the first", t.row(0, 0, 99), 1);
    }

    private static void clear() {
        due.part("clear: how many it had");
        for (int story = 0; story < 3; story++) {
            TwiceOnce t = told(STORIES[story]);
            due.is("had", t.clear(), ROWS[story]);
            due.is("has", t.count(1), 0);
            due.is("had", t.clear(), 0);
        }
        Twin empty = new Twin(due, t -> few(t) + t.clear());
        empty.asks("clear of an empty one", TwiceOnce::clear, 0);
        empty.end();
    }

    private static void free() {
        due.part("free: BAD");
        for (int story = 0; story < 3; story++) {
            twin(story).refusesMixes("free", new int[][] {to(1, BAD)}, (t, is, b, c) -> t.free(is));
        }
        TwiceOnce t = new TwiceOnce();
        due.is("not at first", t.free(0), 0);
        due.is("not", t.free(1), 0);
        due.is("free", t.free(2), BAD);
        due.is("free still", t.free(0), 1);
        due.is("not", t.free(-1), BAD);
        due.is("not still", t.free(0), 0);
    }

    private static void safe() {
        due.part("safe: NONE: place; BAD: gap, fall (0 .. 99)");
        for (int story = 0; story < 3; story++) {
            Twin twin = twin(story);
            for (int place : new int[] {Integer.MIN_VALUE, -1, ROWS[story], Integer.MAX_VALUE}) {
                for (int far : FAR) {
                    twin.asks("safe " + place, t -> t.safe(place, 0, 0), NONE);
                    twin.asks("safe " + place + " " + far, t -> t.safe(place, far, 0), NONE);
                    twin.asks("safe " + place + " 0 " + far, t -> t.safe(place, 0, far), NONE);
                }
            }
            twin.end();
            for (int place = 0; place < ROWS[story]; place++) {
                int at = place;
                twin(story).refusesMixes("safe " + place,
                        new int[][] {to(ROWS[story] - 1 - place, BAD), to(99, BAD)},
                        (t, gap, fall, c) -> t.safe(at, gap, fall));
            }
        }
        TwiceOnce t = told(RefusalTest::brim);
        for (int place = 0; place <= 5; place++) {
            int most = 5 - place;
            due.is("the most gap of " + place, t.safe(place, most, 99) >= 0 ? 1 : 0, 1);
            due.is("one more", t.safe(place, most + 1, 99), BAD);
        }
        looksOnly("safe", u -> u.safe(0, 0, 0));
        looksOnly("safe with a fall", u -> u.safe(0, 2, 1));
    }

    /** What is only asked for answers the same a second time and changes nothing. */
    private static void looksOnly(String name, Twin.Use use) {
        for (int story = 0; story < 3; story++) {
            int want = use.of(told(STORIES[story]));
            Twin twin = twin(story);
            twin.asks(name, use, want);
            twin.asks(name + " once more", use, want);
            twin.end();
        }
    }

    private static void worst() {
        due.part("worst: NONE: it is SAFE");
        looksOnly("worst", TwiceOnce::worst);
        due.is("of an empty row", told(RefusalTest::bare).worst(), NONE);
    }

    private static void orders() {
        due.part("orders: NONE: place, what; STATE: the ROW has not 2 to 4");
        int[] many = {NONE, STATE, 3, 12, 60, STATE, STATE};
        for (int calls = 0; calls <= 6; calls++) {
            int n = calls;
            Twin.Use story = t -> {
                few(t);
                t.clear();
                for (int i = 0; i < n; i++) {
                    t.row(i % 3, i, i);
                }
                return 0;
            };
            new Twin(due, story).refusesMixes("orders of " + n,
                    new int[][] {to(n - 1, NONE), to(1, NONE)}, (t, place, what, c) -> t.orders(place, what));
            Twin twin = new Twin(due, story);
            for (int place = 0; place < Math.max(n, 1); place++) {
                int at = place;
                twin.asks("how many of " + n, t -> t.orders(at, 0), many[n]);
                twin.asks("state for 0 and 1 alike",
                        t -> t.orders(at, 1) < 0 ? t.orders(at, 1) : many[n], many[n]);
            }
            twin.end();
        }
        looksOnly("orders", t -> t.orders(1, 1));
    }

    private static void enough() {
        due.part("enough: NONE: none");
        looksOnly("enough", TwiceOnce::enough);
        due.is("of an empty row", told(RefusalTest::bare).enough(), 0);
    }

    private static void price() {
        due.part("price: NONE; BAD");
        for (int story = 0; story < 3; story++) {
            twin(story).refusesMixes("price", new int[][] {to(3, NONE), to(99, BAD)},
                    (t, m, p, c) -> t.price(m, p));
        }
        TwiceOnce t = new TwiceOnce();
        for (int m = 0; m <= 3; m++) {
            due.is("1 at first", t.price(m, 99), 1);
            due.is("most", t.price(m, 0), 99);
            due.is("least", t.price(m, 1), 0);
        }
    }

    private static void cheapest() {
        due.part("cheapest: NONE: what; STATE: the ROW has more; BIG; NONE: no set is enough");
        for (int story = 0; story < 3; story++) {
            twin(story).refusesMixes("cheapest", new int[][] {to(1, NONE)},
                    (t, what, b, c) -> t.cheapest(what));
        }
        looksOnly("cheapest", t -> t.cheapest(0));
        looksOnly("cheapest set", t -> t.cheapest(1));
        for (int what = 0; what <= 1; what++) {
            int w = what;
            due.is("six calls", told(RefusalTest::brim).cheapest(w), STATE);
            due.is("three services", told(RefusalTest::few).cheapest(w), BIG);
            TwiceOnce t = told(RefusalTest::few);
            t.row(0, 0, 0);
            due.is("state ahead of big", t.cheapest(w), STATE);
            due.is("an empty row", told(RefusalTest::bare).cheapest(w), 0);
        }
        TwiceOnce t = told(RefusalTest::brim);
        due.is("none ahead of state", t.cheapest(2), NONE);
        due.is("none ahead of state", t.cheapest(-1), NONE);
    }

    // ---- logs

    private static void again() {
        due.part("again: nothing is changed by asking");
        looksOnly("again", TwiceOnce::again);
        due.is("of an empty log", told(RefusalTest::bare).again(), 1);
    }

    private static void log() {
        due.part("log: NONE");
        int[] calls = {0, 3, 20};
        for (int story = 0; story < 3; story++) {
            twin(story).refusesMixes("log", new int[][] {to(calls[story] - 1, NONE), to(2, NONE)},
                    (t, i, what, c) -> t.log(i, what));
            due.is("calls", told(STORIES[story]).count(4), calls[story]);
        }
        TwiceOnce t = told(RefusalTest::brim);
        // Of 50 calls the latest 20: from the 16th pair on.
        int[] oldest = {0, 1, 16};
        int[] latest = {1, 24, 0};
        for (int what = 0; what <= 2; what++) {
            due.is("oldest " + what, t.log(0, what), oldest[what]);
            due.is("latest " + what, t.log(19, what), latest[what]);
        }
    }

    private static void reset() {
        due.part("reset: how many CALLS were in the LOG");
        int[] calls = {0, 3, 20};
        for (int story = 0; story < 3; story++) {
            TwiceOnce t = told(STORIES[story]);
            due.is("had", t.reset(), calls[story]);
            int[] want = {SERVICES[story], ROWS[story], 0, 0, 0, BYTES[story]};
            for (int what = 0; what <= 5; what++) {
                due.is("count " + what, t.count(what), want[what]);
            }
            due.is("had", t.reset(), 0);
        }
        Twin twice = new Twin(due, t -> few(t) + t.reset());
        twice.asks("reset of what is as at first", TwiceOnce::reset, 0);
        twice.end();
    }

    private static void count() {
        due.part("count: what 0 .. 5; NONE");
        for (int story = 0; story < 3; story++) {
            twin(story).refusesMixes("count", new int[][] {to(5, NONE)}, (t, what, b, c) -> t.count(what));
        }
        int[] most = {6, 6, 50, 50, 20, 100};
        TwiceOnce t = told(RefusalTest::brim);
        for (int what = 0; what <= 5; what++) {
            due.is("count " + what, t.count(what), most[what]);
        }
    }
}
