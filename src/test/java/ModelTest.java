import java.util.Random;
import java.util.TreeMap;

/** Long runs of calls, the same on every machine, on TwiceOnce beside the Model. */
public final class ModelTest {
    private static final int RUNS = 1500, CALLS = 300;
    private static final int[] EDGES = {-1, Integer.MIN_VALUE, Integer.MAX_VALUE, 1000, 100, 7, 99};

    private final Random random;
    private final TwiceOnce real = new TwiceOnce();
    private final Model model = new Model();
    private final StringBuilder story = new StringBuilder();
    private final TreeMap<String, Integer> seen;

    private ModelTest(long seed, TreeMap<String, Integer> seen) {
        random = new Random(seed);
        this.seen = seen;
    }

    /** Most often below a bound, at times far from it. */
    private int number(int bound) {
        return random.nextInt(40) == 0 ? EDGES[random.nextInt(EDGES.length)] : random.nextInt(bound);
    }

    private String value() {
        switch (random.nextInt(5)) {
            case 0:
            case 1:
                return "x";
            case 2:
                return "r";
            case 3:
                return Integer.toString(random.nextInt(3));
            default:
                return Integer.toString(random.nextInt(1000));
        }
    }

    private String program(boolean tame) {
        StringBuilder text = new StringBuilder();
        int acts = 1 + random.nextInt(random.nextInt(4) == 0 ? 9 : 4);
        String[] words = tame ? new String[] {"set", "max", "get", "if", "ask", "do"}
                : new String[] {"set", "add", "max", "new", "get", "ask", "do", "if"};
        for (int i = 0; i < acts; i++) {
            String word = words[random.nextInt(words.length)];
            text.append(i == 0 ? "" : ";").append(word);
            if (!word.equals("do")) {
                int most = word.equals("ask") ? 6 : random.nextInt(3) == 0 ? 4 : 2;
                text.append(' ').append(random.nextInt(most));
            }
            if (!word.equals("new") && !word.equals("get")) {
                text.append(' ').append(value());
            }
        }
        if (random.nextInt(8) == 0) {
            int at = random.nextInt(text.length());
            text.setCharAt(at, " ;0129xrsetad\u00e9\u0000".charAt(random.nextInt(15)));
        }
        if (random.nextInt(12) == 0) {
            text.setLength(random.nextInt(text.length() + 1));
        }
        return text.toString();
    }

    private boolean same(String call, int got, int want) {
        story.append("  ").append(call).append(" = ").append(want).append('\n');
        String kind = call.substring(0, call.indexOf('(')) + (want < 0 ? " " + want : "");
        seen.merge(kind, 1, Integer::sum);
        if (got != want) {
            System.out.println(story + "but it answered " + got);
        }
        return got == want;
    }

    private boolean feedAll(String text) {
        for (int i = 0; i < text.length(); ) {
            int n = Math.min(1 + random.nextInt(8), text.length() - i);
            long w = random.nextLong();
            for (int k = 0; k < n; k++) {
                w = w << 8 | text.charAt(i + k);
            }
            if (!same("feed(" + w + "," + n + ")", real.feed(w, n), model.feed(w, n))) {
                return false;
            }
            i += n;
        }
        return true;
    }

    private boolean step(boolean tame) {
        int s = number(4), x = random.nextInt(4) == 0 ? number(1000) : number(3);
        int key = random.nextInt(8) == 0 ? number(100) : number(4);
        switch (random.nextInt(32)) {
            case 0:
                return random.nextInt(4) != 0 || feedAll(program(tame))
                        && same("service()", real.service(), model.service());
            case 1:
                return random.nextInt(6) != 0 || feedAll(program(tame))
                        && same("change(" + s + ")", real.change(s), model.change(s));
            case 2:
            case 3: {
                int m = number(4), is = number(2);
                return same("mend(" + s + "," + m + "," + is + ")", real.mend(s, m, is),
                        model.mend(s, m, is));
            }
            case 4: {
                int ticks = random.nextInt(3) == 0 ? number(100) : number(5);
                return same("hold(" + s + "," + ticks + ")", real.hold(s, ticks),
                        model.hold(s, ticks));
            }
            case 5: {
                int c = number(4);
                return same("set(" + s + "," + c + "," + x + ")", real.set(s, c, x),
                        model.set(s, c, x));
            }
            case 6:
            case 7: {
                int what = number(8);
                return same("about(" + s + "," + what + ")", real.about(s, what),
                        model.about(s, what));
            }
            case 8: {
                int i = number(6), what = number(3);
                return same("act(" + s + "," + i + "," + what + ")", real.act(s, i, what),
                        model.act(s, i, what));
            }
            case 9:
            case 10:
            case 11:
            case 12:
            case 13: {
                int fall = random.nextInt(3) == 0 ? number(8) : 0;
                return same("call(" + s + "," + x + "," + key + "," + fall + ")",
                        real.call(s, x, key, fall), model.call(s, x, key, fall));
            }
            case 14: {
                int i = number(42);
                return same("outside(" + i + ")", real.outside(i), model.outside(i));
            }
            default:
                return rowStep(s, x, key);
        }
    }

    private boolean rowStep(int s, int x, int key) {
        switch (random.nextInt(18)) {
            case 0:
            case 1:
            case 2:
                return same("row(" + s + "," + x + "," + key + ")", real.row(s, x, key),
                        model.row(s, x, key));
            case 3:
                return same("clear()", real.clear(), model.clear());
            case 4: {
                int is = number(2);
                return same("free(" + is + ")", real.free(is), model.free(is));
            }
            case 5:
            case 6:
            case 7: {
                int place = number(3), gap = number(3), fall = number(7);
                return same("safe(" + place + "," + gap + "," + fall + ")",
                        real.safe(place, gap, fall), model.safe(place, gap, fall));
            }
            case 8:
            case 9:
                return same("worst()", real.worst(), model.worst());
            case 10: {
                int place = number(4), what = number(2);
                return same("orders(" + place + "," + what + ")", real.orders(place, what),
                        model.orders(place, what));
            }
            case 11:
                return same("enough()", real.enough(), model.enough());
            case 12: {
                int m = number(4), p = random.nextInt(2) == 0 ? number(100) : number(3);
                return same("price(" + m + "," + p + ")", real.price(m, p), model.price(m, p));
            }
            case 13: {
                int what = number(2);
                return same("cheapest(" + what + ")", real.cheapest(what), model.cheapest(what));
            }
            case 14:
                return same("again()", real.again(), model.again());
            case 15: {
                int i = number(20), what = number(3);
                return same("log(" + i + "," + what + ")", real.log(i, what), model.log(i, what));
            }
            case 16:
                return random.nextInt(6) != 0 || same("reset()", real.reset(), model.reset());
            default: {
                int what = number(6);
                return same("count(" + what + ")", real.count(what), model.count(what));
            }
        }
    }

    private boolean run() {
        boolean tame = random.nextBoolean();
        int begin = random.nextInt(4);
        for (int i = 0; i <= begin; i++) {
            if (!feedAll(program(tame)) || !same("service()", real.service(), model.service())) {
                return false;
            }
        }
        for (int i = 0; i < CALLS; i++) {
            if (!step(tame)) {
                return false;
            }
        }
        return true;
    }

    public static void main(String[] args) {
        int runs = args.length > 0 ? Integer.parseInt(args[0]) : RUNS;
        long from = args.length > 1 ? Long.parseLong(args[1]) : 1;
        TreeMap<String, Integer> seen = new TreeMap<>();
        for (long seed = from; seed < from + runs; seed++) {
            if (!new ModelTest(seed, seen).run()) {
                System.out.println("run " + seed + " differs from the model");
                System.exit(1);
            }
        }
        if (args.length > 0) {
            System.out.println(seen);
        }
        System.out.println(runs + " runs as in the model");
    }
}
