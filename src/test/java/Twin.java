import java.util.ArrayList;
import java.util.List;

/**
 * Two objects with the same story, one of which is then asked for what must change nothing: whatever
 * that changed shows in what the two answer behind it.
 */
final class Twin {
    /** A call, or a story of many, on an object. */
    interface Use {
        int of(TwiceOnce t);
    }

    /** A call with three numbers; one that takes fewer leaves the rest. */
    interface Call {
        int of(TwiceOnce t, int a, int b, int c);
    }

    // Story, calls and looks behind them stay below the 512 calls that an object has.
    private static final int MOST_ASKED = 90;

    private final Due due;
    private final Use story;
    private TwiceOnce touched = null;
    private int asked = 0;
    private String latest = "";

    Twin(Due due, Use story) {
        this.due = due;
        this.story = story;
    }

    void asks(String call, Use use, int want) {
        if (touched == null) {
            touched = new TwiceOnce();
            story.of(touched);
        }
        due.is(call, use.of(touched), want);
        latest = call;
        asked++;
        if (asked == MOST_ASKED) {
            end();
        }
    }

    /** Every mix of numbers inside and outside of ranges {least, most, refusal}, first one first. */
    void refusesMixes(String name, int[][] ranges, Call call) {
        for (int a : edges(ranges, 0)) {
            for (int b : edges(ranges, 1)) {
                for (int c : edges(ranges, 2)) {
                    int want = refusalOf(ranges, new int[] {a, b, c});
                    if (want != 0) {
                        asks(name + "(" + a + "," + b + "," + c + ")", t -> call.of(t, a, b, c),
                                want);
                    }
                }
            }
        }
        end();
    }

    private static int[] edges(int[][] ranges, int i) {
        if (i >= ranges.length) {
            return new int[] {0};
        }
        int least = ranges[i][0], most = ranges[i][1];
        return new int[] {Integer.MIN_VALUE, least - 1, least, most, most + 1, Integer.MAX_VALUE};
    }

    // NONE, BAD, STATE, FULL come in this order, and so do -3 and -4 of call: the greatest is first.
    private static int refusalOf(int[][] ranges, int[] numbers) {
        int want = Integer.MIN_VALUE;
        for (int i = 0; i < ranges.length; i++) {
            if (numbers[i] < ranges[i][0] || numbers[i] > ranges[i][1]) {
                want = Math.max(want, ranges[i][2]);
            }
        }
        return want == Integer.MIN_VALUE ? 0 : want;
    }

    /** Looks whether all that was asked changed nothing. */
    void end() {
        if (touched == null) {
            return;
        }
        TwiceOnce left = new TwiceOnce();
        story.of(left);
        List<String> want = looks(left);
        List<String> got = looks(touched);
        int same = 0;
        while (same < want.size() && want.get(same).equals(got.get(same))) {
            same++;
        }
        String tale = " changes nothing" + (same == want.size() ? ""
                : ": due is " + want.get(same) + ", got " + got.get(same));
        due.is("up to " + latest + tale, same, want.size());
        touched = null;
        asked = 0;
    }

    private static List<String> looks(TwiceOnce t) {
        List<String> seen = new ArrayList<>();
        lookAtServices(t, seen);
        lookAtLists(t, seen);
        lookAtSettings(t, seen);
        lookAtRow(t, seen);
        // From here on the object is changed.
        see(seen, "service", t.service());
        see(seen, "change 0", t.change(0));
        for (int i = 0; i < 18; i++) {
            int s = i % 3;
            see(seen, "call " + i, t.call(s, i % 2, i % 9, 0));
        }
        see(seen, "outside", t.outside(0));
        see(seen, "again", t.again());
        return seen;
    }

    private static void see(List<String> seen, String name, int answer) {
        seen.add(name + " = " + answer);
    }

    private static void lookAtServices(TwiceOnce t, List<String> seen) {
        for (int what = 0; what <= 5; what++) {
            see(seen, "count " + what, t.count(what));
        }
        for (int s = 0; s < t.count(0); s++) {
            for (int what = 0; what <= 7; what++) {
                see(seen, "about " + s + " " + what, t.about(s, what));
            }
            for (int i = 0; i < 2; i++) {
                for (int what = 0; what <= 2; what++) {
                    see(seen, "act " + s + " " + i + " " + what, t.act(s, i, what));
                }
            }
        }
    }

    private static void lookAtLists(TwiceOnce t, List<String> seen) {
        for (int i = 0; i <= 40; i += 3) {
            see(seen, "outside " + i, t.outside(i));
        }
        for (int i = 0; i < 20; i += 4) {
            for (int what = 0; what <= 2; what++) {
                see(seen, "log " + i + " " + what, t.log(i, what));
            }
        }
    }

    // What they were is told by changing them; then they are put back.
    private static void lookAtSettings(TwiceOnce t, List<String> seen) {
        for (int s = 0; s < Math.min(t.count(0), 3); s++) {
            for (int m = 0; m < 4; m++) {
                int was = t.mend(s, m, 0);
                see(seen, "mend " + s + " " + m, was);
                t.mend(s, m, was);
            }
            int held = t.hold(s, 0);
            see(seen, "hold " + s, held);
            t.hold(s, held);
        }
        for (int m = 0; m < 4; m++) {
            int was = t.price(m, 0);
            see(seen, "price " + m, was);
            t.price(m, was);
        }
        int was = t.free(0);
        see(seen, "free", was);
        t.free(was);
    }

    private static void lookAtRow(TwiceOnce t, List<String> seen) {
        for (int place = 0; place < t.count(1); place++) {
            for (int fall = 0; fall < 3; fall++) {
                see(seen, "safe " + place + " 0 " + fall, t.safe(place, 0, fall));
            }
        }
        see(seen, "worst", t.worst());
        see(seen, "orders", t.orders(0, 1));
        see(seen, "orders", t.orders(1, 1));
        see(seen, "enough", t.enough());
        see(seen, "cheapest", t.cheapest(0));
        see(seen, "cheapest", t.cheapest(1));
        see(seen, "again", t.again());
    }
}
