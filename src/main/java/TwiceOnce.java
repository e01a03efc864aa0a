/**
 * A judge of calls that may come twice: small services over stores and helpers, rows of calls in
 * which one comes again, mends, and the cheapest mends that make a row safe.
 */
public final class TwiceOnce {
    public static final int NONE = -1, BAD = -2, STATE = -3, FULL = -4, BIG = -5;

    // call() has refusals of its own, since -1 and -2 are ANSWERS there.
    private static final int CALL_OF_NONE = -3, CALL_BAD = -4;
    private static final int FAULT_BASE = -10;

    private static final int MOST_SERVICES = 6, CELLS = 4, MENDS = 4;
    private static final int MOST_BYTES = 100, MOST_ACTS = 8, MOST_COMING = 60;
    private static final int NUMBERS = 1000, MOST_KEY = 99, MOST_FALL = 99;
    private static final int FIRST_HOLD = 10, MOST_HOLD = 99, MOST_KEPT = 16, MOST_PRICE = 99;
    private static final int KEPT_OUTSIDE = 40, MOST_ROW = 6, MOST_LOG = 20;
    private static final int WORST_FALL = 5, ENOUGH_HOLD = 20;
    private static final int CHEAPEST_ROW = 3, CHEAPEST_REACH = 2;
    private static final int LEAST_ORDERED = 2, MOST_ORDERED = 4, ONCE_ORDERS = 24;

    private static final int SET = 0, ADD = 1, MAX = 2, NEW = 3, GET = 4, ASK = 5, DO = 6, IF = 7;
    private static final int WORD_COUNT = 8;
    private static final int VALUE_X = 1000, VALUE_R = 1001;

    private static final int KEYED = 0, FIRST = 1, PASS = 2, EQUAL = 3;
    private static final int REFUSED = -1, FALLEN = -2;

    // A ROW's CALLS with one that comes again do 7 * 60 ACTS at most: a trial never wraps around.
    // A power of two, so that a mask keeps every index inside, whatever was counted.
    private static final int DONE_ROOM = 512, DONE_MASK = DONE_ROOM - 1;

    private final Tape tape = new Tape();
    private final World now = new World();
    private final CallList rowCalls = new CallList(MOST_ROW);
    private final CallList logCalls = new CallList(MOST_LOG);
    private final Judge judge = new Judge();
    private final int[] prices = new int[MENDS];
    private boolean answersFree = false;

    public TwiceOnce() {
        for (int m = 0; m < MENDS; m++) {
            prices[m] = 1;
        }
    }

    // ---- services

    public int feed(long w, int n) {
        if (n < 1 || n > 8) {
            return BAD;
        }
        if (tape.size + n > MOST_BYTES) {
            return FULL;
        }
        tape.append(w, n);
        return tape.size;
    }

    public int service() {
        if (now.size >= MOST_SERVICES) {
            return FULL;
        }
        Program program = tape.takeProgram();
        if (program == null) {
            return FAULT_BASE - tape.fault;
        }
        now.services[now.size].program = program;
        now.size++;
        return now.size - 1;
    }

    public int change(int s) {
        if (!now.has(s)) {
            return NONE;
        }
        Program program = tape.takeProgram();
        if (program == null) {
            return FAULT_BASE - tape.fault;
        }
        now.services[s].program = program;
        return program.size;
    }

    public int mend(int s, int m, int is) {
        if (!now.has(s) || !within(m, MENDS - 1)) {
            return NONE;
        }
        if (!within(is, 1)) {
            return BAD;
        }
        Service service = now.services[s];
        int was = service.mends >> m & 1;
        service.mends = service.mends & ~(1 << m) | is << m;
        return was;
    }

    public int hold(int s, int ticks) {
        if (!now.has(s)) {
            return NONE;
        }
        if (!within(ticks, MOST_HOLD)) {
            return BAD;
        }
        int was = now.services[s].holdTicks;
        now.services[s].holdTicks = ticks;
        return was;
    }

    public int set(int s, int cell, int v) {
        if (!now.has(s) || !within(cell, CELLS - 1)) {
            return NONE;
        }
        if (!within(v, NUMBERS - 1)) {
            return BAD;
        }
        int was = now.services[s].cells[cell];
        now.services[s].cells[cell] = v;
        return was;
    }

    public int about(int s, int what) {
        if (!now.has(s) || !within(what, CELLS + 3)) {
            return NONE;
        }
        Service service = now.services[s];
        if (what < CELLS) {
            return service.cells[what];
        }
        switch (what - CELLS) {
            case 0:
                return service.counter;
            case 1:
                return service.keysNotOver(now.ticks);
            case 2:
                return service.program.size;
            default:
                return now.isReader(s) ? 1 : 0;
        }
    }

    public int act(int s, int i, int what) {
        if (!now.has(s)) {
            return NONE;
        }
        Program program = now.services[s].program;
        if (!within(i, program.size - 1)) {
            return NONE;
        }
        switch (what) {
            case 0:
                return program.words[i];
            case 1:
                return program.targets[i];
            case 2:
                return program.values[i];
            default:
                return NONE;
        }
    }

    public int call(int s, int x, int key, int fall) {
        if (!now.has(s)) {
            return CALL_OF_NONE;
        }
        if (!within(x, NUMBERS - 1) || !within(key, MOST_KEY) || !within(fall, MOST_FALL)) {
            return CALL_BAD;
        }
        logCalls.appendLatest(s, x, key);
        return now.fromOutside(s, x, key, fall);
    }

    public int outside(int i) {
        if (!within(i, Math.min(now.doneInAll, KEPT_OUTSIDE) - 1)) {
            return NONE;
        }
        return now.done[now.doneInAll - 1 - i & DONE_MASK];
    }

    // ---- rows

    public int row(int s, int x, int key) {
        if (!now.has(s)) {
            return NONE;
        }
        if (!within(x, NUMBERS - 1) || !within(key, MOST_KEY)) {
            return BAD;
        }
        if (rowCalls.size >= MOST_ROW) {
            return FULL;
        }
        rowCalls.appendLatest(s, x, key);
        return rowCalls.size;
    }

    public int clear() {
        int had = rowCalls.size;
        rowCalls.size = 0;
        return had;
    }

    public int free(int is) {
        if (!within(is, 1)) {
            return BAD;
        }
        int was = answersFree ? 1 : 0;
        answersFree = is == 1;
        return was;
    }

    public int safe(int place, int gap, int fall) {
        if (!within(place, rowCalls.size - 1)) {
            return NONE;
        }
        if (!within(gap, rowCalls.size - 1 - place) || !within(fall, MOST_FALL)) {
            return BAD;
        }
        judge.beginAt(now);
        judge.runOnce(rowCalls);
        judge.runTwice(rowCalls, place, gap, fall);
        return judge.isLike(rowCalls, place, answersFree) ? 1 : 0;
    }

    public int worst() {
        judge.beginAt(now);
        return judge.firstUnsafe(rowCalls, answersFree);
    }

    public int orders(int place, int what) {
        if (!within(place, rowCalls.size - 1) || !within(what, 1)) {
            return NONE;
        }
        if (rowCalls.size < LEAST_ORDERED || rowCalls.size > MOST_ORDERED) {
            return STATE;
        }
        judge.beginAt(now);
        return judge.ordersOf(rowCalls, place, what == 1);
    }

    public int enough() {
        for (int ticks = 0; ticks <= ENOUGH_HOLD; ticks++) {
            judge.beginAt(now);
            judge.start.holdAll(ticks);
            if (judge.firstUnsafe(rowCalls, answersFree) == NONE) {
                return ticks;
            }
        }
        return NONE;
    }

    public int price(int m, int p) {
        if (!within(m, MENDS - 1)) {
            return NONE;
        }
        if (!within(p, MOST_PRICE)) {
            return BAD;
        }
        int was = prices[m];
        prices[m] = p;
        return was;
    }

    public int cheapest(int what) {
        if (!within(what, 1)) {
            return NONE;
        }
        if (rowCalls.size > CHEAPEST_ROW) {
            return STATE;
        }
        int reached = now.reachOf(rowCalls);
        if (Integer.bitCount(reached) > CHEAPEST_REACH) {
            return BIG;
        }
        int additions = cheapestAdditions(reached);
        return additions == NONE || what == 1 ? additions : priceOf(additions);
    }

    // Sets come in the order of their numbers: a later one must cost less to be taken.
    private int cheapestAdditions(int reached) {
        int lower = Math.min(Integer.numberOfTrailingZeros(reached), MOST_SERVICES - 1);
        int upper = Math.max(31 - Integer.numberOfLeadingZeros(reached), 0);
        int sets = 1 << MENDS * Integer.bitCount(reached);
        int best = NONE;
        for (int i = 0; i < sets; i++) {
            int ofLower = i & (1 << MENDS) - 1;
            int ofUpper = i >> MENDS;
            int additions = ofLower << MENDS * lower | ofUpper << MENDS * upper;
            if (best != NONE && priceOf(additions) >= priceOf(best)) {
                continue;
            }
            judge.beginAt(now);
            judge.start.addMends(additions);
            if (judge.firstUnsafe(rowCalls, answersFree) == NONE) {
                best = additions;
            }
        }
        return best;
    }

    private int priceOf(int additions) {
        int sum = 0;
        for (int bit = 0; bit < MENDS * MOST_SERVICES; bit++) {
            if ((additions >> bit & 1) == 1) {
                sum += prices[bit % MENDS];
            }
        }
        return sum;
    }

    // ---- logs

    public int again() {
        judge.beginAt(now);
        return judge.isStill(logCalls) ? 1 : 0;
    }

    public int log(int i, int what) {
        if (!within(i, logCalls.size - 1)) {
            return NONE;
        }
        switch (what) {
            case 0:
                return logCalls.services[i];
            case 1:
                return logCalls.xs[i];
            case 2:
                return logCalls.keys[i];
            default:
                return NONE;
        }
    }

    public int reset() {
        int had = logCalls.size;
        logCalls.size = 0;
        now.makeFresh();
        return had;
    }

    public int count(int what) {
        switch (what) {
            case 0:
                return now.size;
            case 1:
                return rowCalls.size;
            case 2:
                return now.doneInAll;
            case 3:
                return now.ticks;
            case 4:
                return logCalls.size;
            case 5:
                return tape.size;
            default:
                return NONE;
        }
    }

    private static boolean within(int number, int most) {
        return number >= 0 && number <= most;
    }

    /** The ACTS of a SERVICE, as they were read. */
    private static final class Program {
        final int[] words = new int[MOST_ACTS];
        final int[] targets = new int[MOST_ACTS];
        final int[] values = new int[MOST_ACTS];
        int size = 0;

        void append(int word, int target, int value) {
            if (size < MOST_ACTS) {
                words[size] = word;
                targets[size] = target;
                values[size] = value;
                size++;
            }
        }

        int valueAt(int place, int x, int answer) {
            int value = values[place];
            if (value == VALUE_X) {
                return x;
            }
            if (value == VALUE_R) {
                return answer > 0 ? answer : 0;
            }
            return value;
        }
    }

    /** THE TAPE and its reading; a part that can't be read leaves the place at the FAULT. */
    private static final class Tape {
        // Each word with its blank; word w stands from WORD_BEGINS[w] on.
        private static final String WORDS = "set add max new get ask do if ";
        private static final int[] WORD_BEGINS = {0, 4, 8, 12, 16, 20, 24, 27, 30};

        private final int[] bytes = new int[MOST_BYTES];
        int size = 0;
        int fault = 0;
        private int place = 0;

        void append(long w, int n) {
            for (int i = n - 1; i >= 0 && size < MOST_BYTES; i--) {
                bytes[size] = (int) (w >>> 8 * i & 255L);
                size++;
            }
        }

        /** The PROGRAM that stands here, or null with the FAULT told; THE TAPE is empty then. */
        Program takeProgram() {
            Program program = new Program();
            place = 0;
            boolean good = readActs(program) && place == size;
            fault = place;
            size = 0;
            return good ? program : null;
        }

        private boolean readActs(Program program) {
            for (int i = 0; i < MOST_ACTS; i++) {
                if (!readAct(program)) {
                    return false;
                }
                if (i == MOST_ACTS - 1 || !pass(';')) {
                    break;
                }
            }
            return true;
        }

        private boolean readAct(Program program) {
            int word = readWord();
            if (word == NONE) {
                return false;
            }
            int target = 0;
            if (word != DO) {
                target = readDigit(word == ASK ? MOST_SERVICES - 1 : CELLS - 1);
            }
            if (target == NONE) {
                return false;
            }
            int value = 0;
            if (word != NEW && word != GET) {
                value = word == DO || pass(' ') ? readValue() : NONE;
            }
            if (value == NONE) {
                return false;
            }
            program.append(word, target, value);
            return true;
        }

        private int readWord() {
            int furthest = 0;
            for (int word = 0; word < WORD_COUNT; word++) {
                int begin = WORD_BEGINS[word];
                int length = WORD_BEGINS[word + 1] - begin;
                int alike = 0;
                while (alike < length && byteAt(place + alike) == WORDS.charAt(begin + alike)) {
                    alike++;
                }
                if (alike == length) {
                    place += length;
                    return word;
                }
                furthest = Math.max(furthest, alike);
            }
            place += furthest;
            return NONE;
        }

        private int readDigit(int most) {
            int digit = byteAt(place) - '0';
            if (!within(digit, most)) {
                return NONE;
            }
            place++;
            return digit;
        }

        private int readValue() {
            if (pass('x')) {
                return VALUE_X;
            }
            if (pass('r')) {
                return VALUE_R;
            }
            int value = readDigit(9);
            for (int more = 0; value != NONE && more < 2; more++) {
                int digit = readDigit(9);
                if (digit == NONE) {
                    break;
                }
                value = value * 10 + digit;
            }
            return value;
        }

        private boolean pass(char sign) {
            if (byteAt(place) != sign) {
                return false;
            }
            place++;
            return true;
        }

        private int byteAt(int i) {
            return i >= 0 && i < size ? bytes[i] : NONE;
        }
    }

    /** CALLS with SERVICE, x and KEY, in a row: the ROW, the LOG. */
    private static final class CallList {
        final int[] services;
        final int[] xs;
        final int[] keys;
        int size = 0;

        CallList(int most) {
            int room = Math.max(most, 1);
            services = new int[room];
            xs = new int[room];
            keys = new int[room];
        }

        void appendLatest(int s, int x, int key) {
            if (size == services.length) {
                dropOldest();
            }
            services[size] = s;
            xs[size] = x;
            keys[size] = key;
            size++;
        }

        private void dropOldest() {
            size--;
            System.arraycopy(services, 1, services, 0, size);
            System.arraycopy(xs, 1, xs, 0, size);
            System.arraycopy(keys, 1, keys, 0, size);
        }
    }

    /** A SERVICE: its PROGRAM, STORE, COUNT, MENDS, the KEYS it keeps, what EQUAL knows. */
    private static final class Service {
        Program program = new Program();
        final int[] cells = new int[CELLS];
        int counter = 0;
        int mends = 0;
        int holdTicks = FIRST_HOLD;

        private int kept = 0;
        private final int[] keptKeys = new int[MOST_KEPT];
        private final int[] keptXs = new int[MOST_KEPT];
        private final int[] keptAnswers = new int[MOST_KEPT];
        private final int[] keptTicks = new int[MOST_KEPT];

        private int knownX = NONE;
        private int knownKey = NONE;
        private final int[] knownActs = new int[MOST_ACTS];
        // What was known ahead of the CALL that is under way; no CALL is under way in a copy.
        private final int[] earlierActs = new int[MOST_ACTS];
        private boolean holdsBack = false;

        void copyFrom(Service other) {
            program = other.program;
            System.arraycopy(other.cells, 0, cells, 0, CELLS);
            counter = other.counter;
            mends = other.mends;
            holdTicks = other.holdTicks;
            kept = other.kept;
            System.arraycopy(other.keptKeys, 0, keptKeys, 0, kept);
            System.arraycopy(other.keptXs, 0, keptXs, 0, kept);
            System.arraycopy(other.keptAnswers, 0, keptAnswers, 0, kept);
            System.arraycopy(other.keptTicks, 0, keptTicks, 0, kept);
            knownX = other.knownX;
            knownKey = other.knownKey;
            System.arraycopy(other.knownActs, 0, knownActs, 0, MOST_ACTS);
        }

        // What EQUAL knows is none of what the document's reset names: it stays.
        void makeFresh() {
            for (int c = 0; c < CELLS; c++) {
                cells[c] = 0;
            }
            counter = 0;
            kept = 0;
        }

        boolean isMended(int mend) {
            return (mends >> mend & 1) == 1;
        }

        boolean hasSameStore(Service other) {
            for (int c = 0; c < CELLS; c++) {
                if (cells[c] != other.cells[c]) {
                    return false;
                }
            }
            return true;
        }

        int keysNotOver(int tick) {
            int sum = 0;
            for (int i = 0; i < kept; i++) {
                sum += isOver(i, tick) ? 0 : 1;
            }
            return sum;
        }

        void dropOver(int tick) {
            int left = 0;
            for (int i = 0; i < kept; i++) {
                if (!isOver(i, tick)) {
                    keptKeys[left] = keptKeys[i];
                    keptXs[left] = keptXs[i];
                    keptAnswers[left] = keptAnswers[i];
                    keptTicks[left] = keptTicks[i];
                    left++;
                }
            }
            kept = left;
        }

        private boolean isOver(int i, int tick) {
            return tick > keptTicks[i] + holdTicks;
        }

        int placeOfKey(int key) {
            for (int i = 0; i < kept; i++) {
                if (keptKeys[i] == key) {
                    return i;
                }
            }
            return NONE;
        }

        int keptAnswer(int i, int x) {
            return keptXs[i] == x ? keptAnswers[i] : REFUSED;
        }

        void keep(int key, int x, int answer, int tick) {
            if (kept == MOST_KEPT) {
                kept--;
                System.arraycopy(keptKeys, 1, keptKeys, 0, kept);
                System.arraycopy(keptXs, 1, keptXs, 0, kept);
                System.arraycopy(keptAnswers, 1, keptAnswers, 0, kept);
                System.arraycopy(keptTicks, 1, keptTicks, 0, kept);
            }
            keptKeys[kept] = key;
            keptXs[kept] = x;
            keptAnswers[kept] = answer;
            keptTicks[kept] = tick;
            kept++;
        }

        // None is asked for the same SERVICE inside its own CALL, so the KEY is the newest still.
        void answerNewest(int key, int answer) {
            if (kept > 0 && keptKeys[kept - 1] == key) {
                keptAnswers[kept - 1] = answer;
            }
        }

        /** A CALL that KEYED did not answer begins: it is the one that EQUAL knows from now on. */
        void beginKnown(int x, int key) {
            holdsBack = isMended(EQUAL) && knownX == x && knownKey == key;
            knownX = x;
            knownKey = key;
            for (int place = 0; place < MOST_ACTS; place++) {
                earlierActs[place] = knownActs[place];
                knownActs[place] = NONE;
            }
        }

        /** The ACT of a place comes: whether EQUAL says that it isn't done. */
        boolean isHeldBack(int place, int value) {
            int word = program.words[place];
            int coming = (word * 10 + program.targets[place]) * NUMBERS + value;
            knownActs[place] = coming;
            boolean canBe = word == SET || word == MAX || word == DO;
            return canBe && holdsBack && earlierActs[place] == coming;
        }

        /** An ACT on STORE and COUNT alone is done: the ANSWER behind it. */
        int perform(int place, int value, int answer) {
            int c = program.targets[place];
            if (c >= CELLS) {
                return answer;
            }
            switch (program.words[place]) {
                case SET:
                    cells[c] = value;
                    return answer;
                case ADD:
                    cells[c] = (cells[c] + value) % NUMBERS;
                    return answer;
                case MAX:
                    cells[c] = value > cells[c] ? value : cells[c];
                    return answer;
                case NEW:
                    counter = (counter + 1) % NUMBERS;
                    cells[c] = counter;
                    return counter;
                case GET:
                    return cells[c];
                default:
                    return answer;
            }
        }

        boolean passesOver(int place, int value) {
            int c = program.targets[place];
            return program.words[place] == IF && c < CELLS && cells[c] != value;
        }
    }

    /** All SERVICES, the TICKS and what was done OUTSIDE. */
    private static final class World {
        final Service[] services = new Service[MOST_SERVICES];
        int size = 0;
        int ticks = 0;
        final int[] done = new int[DONE_ROOM];
        int doneInAll = 0;

        // Of the CALL from outside that is under way, or was last.
        int came = 0;
        private int breakAt = 0;
        private boolean broken = false;

        World() {
            for (int s = 0; s < MOST_SERVICES; s++) {
                services[s] = new Service();
            }
        }

        /** All as there, but that nothing was done OUTSIDE yet. */
        void copyFrom(World other) {
            size = other.size;
            ticks = other.ticks;
            doneInAll = 0;
            for (int s = 0; s < size; s++) {
                services[s].copyFrom(other.services[s]);
            }
        }

        void makeFresh() {
            ticks = 0;
            doneInAll = 0;
            for (int s = 0; s < size; s++) {
                services[s].makeFresh();
            }
        }

        boolean has(int s) {
            return s >= 0 && s < size;
        }

        void holdAll(int ofTicks) {
            for (int s = 0; s < size; s++) {
                services[s].holdTicks = ofTicks;
            }
        }

        void addMends(int additions) {
            for (int s = 0; s < size; s++) {
                services[s].mends |= additions >> MENDS * s & (1 << MENDS) - 1;
            }
        }

        /** A bit for each SERVICE that CALLS of a row can come to. */
        int reachOf(CallList calls) {
            int reached = 0;
            for (int i = 0; i < calls.size; i++) {
                reached |= 1 << calls.services[i];
            }
            // An ask goes to a greater number alone, so one pass upward is enough.
            for (int s = 0; s < size; s++) {
                if ((reached >> s & 1) == 1) {
                    reached |= askedBy(s);
                }
            }
            return reached;
        }

        private int askedBy(int s) {
            Program program = services[s].program;
            int asked = 0;
            for (int i = 0; i < program.size; i++) {
                if (program.words[i] == ASK && canAsk(s, program.targets[i])) {
                    asked |= 1 << program.targets[i];
                }
            }
            return asked;
        }

        private boolean canAsk(int s, int target) {
            return target > s && target < size;
        }

        // An ask by which nothing is done asks no one; it doesn't hinder a READER.
        boolean isReader(int s) {
            int readers = 0;
            for (int t = size - 1; t >= s; t--) {
                if (isSilent(t) && (askedBy(t) & ~readers) == 0) {
                    readers |= 1 << t;
                }
            }
            return (readers >> s & 1) == 1;
        }

        private boolean isSilent(int s) {
            Program program = services[s].program;
            for (int i = 0; i < program.size; i++) {
                int word = program.words[i];
                if (word != GET && word != ASK && word != IF) {
                    return false;
                }
            }
            return true;
        }

        /** A CALL from outside, with a FALL at an ACT (0: none): its ANSWER. */
        int fromOutside(int s, int x, int key, int fall) {
            ticks++;
            for (int i = 0; i < size; i++) {
                services[i].dropOver(ticks);
            }
            came = 0;
            breakAt = fall >= 1 && fall <= MOST_COMING ? fall : MOST_COMING + 1;
            broken = false;
            int answer = serve(s, x, key);
            return broken ? FALLEN : answer;
        }

        private int serve(int s, int x, int key) {
            Service service = services[s];
            boolean keyed = key != 0 && service.isMended(KEYED);
            boolean first = keyed && service.isMended(FIRST);
            int keptAt = keyed ? service.placeOfKey(key) : NONE;
            if (keptAt != NONE) {
                return service.keptAnswer(keptAt, x);
            }
            if (first) {
                service.keep(key, x, 0, ticks);
            }
            service.beginKnown(x, key);
            int answer = runActs(s, x, key);
            if (broken) {
                return FALLEN;
            }
            if (first) {
                service.answerNewest(key, answer);
            } else if (keyed) {
                service.keep(key, x, answer, ticks);
            }
            return answer;
        }

        private int runActs(int s, int x, int key) {
            Service service = services[s];
            Program program = service.program;
            boolean passesKeys = key != 0 && service.isMended(PASS);
            int answer = 0;
            boolean passedOver = false;
            for (int place = 0; place < program.size; place++) {
                if (passedOver) {
                    passedOver = false;
                    continue;
                }
                if (came + 1 >= breakAt) {
                    broken = true;
                    return FALLEN;
                }
                came++;
                int value = program.valueAt(place, x, answer);
                if (service.isHeldBack(place, value)) {
                    continue;
                }
                int word = program.words[place];
                int target = program.targets[place];
                if (word == ASK && canAsk(s, target)) {
                    int passed = passesKeys ? (key + 7 * place) % MOST_KEY + 1 : 0;
                    // The number grows with each ask, so that SERVICES stand six deep at most.
                    answer = serve(target, value, passed);
                    if (broken) {
                        return FALLEN;
                    }
                } else if (word == DO) {
                    done[doneInAll & DONE_MASK] = value;
                    doneInAll++;
                } else if (word == IF) {
                    passedOver = service.passesOver(place, value);
                } else if (word != ASK) {
                    answer = service.perform(place, value, answer);
                }
            }
            return answer;
        }

        boolean hasSameStores(World other) {
            for (int s = 0; s < size; s++) {
                if (!services[s].hasSameStore(other.services[s])) {
                    return false;
                }
            }
            return true;
        }

        boolean hasSameCounts(World other) {
            for (int s = 0; s < size; s++) {
                if (services[s].counter != other.services[s].counter) {
                    return false;
                }
            }
            return true;
        }

        boolean didTheSame(World other) {
            if (doneInAll != other.doneInAll) {
                return false;
            }
            for (int i = 0; i < doneInAll && i < DONE_ROOM; i++) {
                if (done[i] != other.done[i]) {
                    return false;
                }
            }
            return true;
        }
    }

    /** Trials of rows of CALLS; all begin at the start, which is a copy: nothing is changed. */
    private static final class Judge {
        private static final int CELLS_IN_ALL = MOST_SERVICES * CELLS;

        final World start = new World();
        private final World once = new World();
        private final World twice = new World();
        private final int[] onceAnswers = new int[MOST_ROW];
        private final int[] onceCame = new int[MOST_ROW];
        private final int[] twiceAnswers = new int[MOST_ROW];
        private int againAnswer = 0;

        // Ends of orders: how many ACTS OUTSIDE, all CELLS, these ACTS by number; the last row is
        // of the order that is looked at.
        private final int[][] ends =
                new int[ONCE_ORDERS + 1][1 + CELLS_IN_ALL + (MOST_ORDERED + 1) * MOST_COMING];
        private final int[] order = new int[MOST_ORDERED + 1];
        private final int[] comings = new int[MOST_ORDERED];

        void beginAt(World world) {
            start.copyFrom(world);
        }

        void runOnce(CallList row) {
            once.copyFrom(start);
            for (int i = 0; i < row.size; i++) {
                onceAnswers[i] = once.fromOutside(row.services[i], row.xs[i], row.keys[i], 0);
                onceCame[i] = once.came;
            }
        }

        void runTwice(CallList row, int place, int gap, int fall) {
            twice.copyFrom(start);
            for (int i = 0; i < row.size; i++) {
                int fallHere = i == place ? fall : 0;
                twiceAnswers[i] =
                        twice.fromOutside(row.services[i], row.xs[i], row.keys[i], fallHere);
                if (i == place + gap) {
                    againAnswer = twice.fromOutside(
                            row.services[place], row.xs[place], row.keys[place], 0);
                }
            }
        }

        boolean isLike(CallList row, int place, boolean answersFree) {
            for (int i = 0; i < row.size; i++) {
                boolean compared = i != place || twiceAnswers[i] != FALLEN;
                if (compared && twiceAnswers[i] != onceAnswers[i]) {
                    return false;
                }
            }
            if (!answersFree && againAnswer != onceAnswers[place]) {
                return false;
            }
            return twice.hasSameStores(once) && twice.hasSameCounts(once) && twice.didTheSame(once);
        }

        /** WORST of a row as a number, or NONE if it is SAFE. */
        int firstUnsafe(CallList row, boolean answersFree) {
            runOnce(row);
            for (int place = 0; place < row.size; place++) {
                // A FALL behind the last ACT that comes is none: that is tried as 0.
                int mostFall = Math.min(WORST_FALL, onceCame[place]);
                for (int gap = 0; gap < row.size - place; gap++) {
                    for (int fall = 0; fall <= mostFall; fall++) {
                        runTwice(row, place, gap, fall);
                        if (!isLike(row, place, answersFree)) {
                            return 1000 * place + 100 * gap + fall;
                        }
                    }
                }
            }
            return NONE;
        }

        /** How many orders there are with one place twice, or how many of these end likewise. */
        int ordersOf(CallList row, int place, boolean likewise) {
            int onceEnds = likewise ? writeOnceEnds(row) : 0;
            int sum = 0;
            int codes = power(row.size, row.size + 1);
            for (int code = 0; code < codes; code++) {
                if (!isOrder(code, row.size, place)) {
                    continue;
                }
                if (likewise) {
                    runOrder(row, row.size + 1);
                    writeEnd(ends[ONCE_ORDERS]);
                }
                sum += !likewise || isAmongEnds(onceEnds) ? 1 : 0;
            }
            return sum;
        }

        private int writeOnceEnds(CallList row) {
            int written = 0;
            int codes = power(row.size, row.size);
            for (int code = 0; code < codes && written < ONCE_ORDERS; code++) {
                if (isOrder(code, row.size, NONE)) {
                    runOrder(row, row.size);
                    writeEnd(ends[written]);
                    written++;
                }
            }
            return written;
        }

        private static int power(int base, int times) {
            int product = 1;
            for (int i = 0; i < times; i++) {
                product *= base;
            }
            return product;
        }

        /** Whether the digits of a code, base n, have each CALL once, but that of a place twice. */
        private boolean isOrder(int code, int n, int twicePlace) {
            if (n < 1 || n > MOST_ORDERED) {
                return false;
            }
            for (int i = 0; i < n; i++) {
                comings[i] = i == twicePlace ? 2 : 1;
            }
            int length = twicePlace == NONE ? n : n + 1;
            int rest = code;
            for (int i = 0; i < length; i++) {
                order[i] = rest % n;
                rest /= n;
                comings[order[i]]--;
                if (comings[order[i]] < 0) {
                    return false;
                }
            }
            return true;
        }

        private void runOrder(CallList row, int length) {
            twice.copyFrom(start);
            for (int i = 0; i < length; i++) {
                int place = order[i];
                twice.fromOutside(row.services[place], row.xs[place], row.keys[place], 0);
            }
        }

        private void writeEnd(int[] end) {
            end[0] = Math.min(twice.doneInAll, end.length - 1 - CELLS_IN_ALL);
            for (int s = 0; s < MOST_SERVICES; s++) {
                for (int c = 0; c < CELLS; c++) {
                    end[1 + CELLS * s + c] = s < twice.size ? twice.services[s].cells[c] : 0;
                }
            }
            int begin = 1 + CELLS_IN_ALL;
            for (int i = 0; i < end[0]; i++) {
                int number = twice.done[i];
                int at = begin + i;
                while (at > begin && end[at - 1] > number) {
                    end[at] = end[at - 1];
                    at--;
                }
                end[at] = number;
            }
        }

        private boolean isAmongEnds(int onceEnds) {
            for (int i = 0; i < onceEnds; i++) {
                if (isSameEnd(ends[i], ends[ONCE_ORDERS])) {
                    return true;
                }
            }
            return false;
        }

        private static boolean isSameEnd(int[] one, int[] other) {
            int length = Math.min(1 + CELLS_IN_ALL + one[0], one.length);
            for (int i = 0; i < length; i++) {
                if (one[i] != other[i]) {
                    return false;
                }
            }
            return true;
        }

        boolean isStill(CallList calls) {
            twice.copyFrom(start);
            for (int i = 0; i < calls.size; i++) {
                twice.fromOutside(calls.services[i], calls.xs[i], calls.keys[i], 0);
            }
            return twice.doneInAll == 0 && twice.hasSameStores(start) && twice.hasSameCounts(start);
        }
    }
}
