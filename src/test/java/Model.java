import java.util.ArrayList;
import java.util.Arrays;
import java.util.HashSet;
import java.util.List;
import java.util.Set;
import java.util.TreeSet;
import java.util.regex.Matcher;
import java.util.regex.Pattern;

/**
 * The document told a second time, in another way, for ModelTest: texts by regular expressions,
 * falls by an exception, all in lists that are copied whole, and no short cuts.
 */
final class Model {
    private static final String VALUE = "(?:[0-9]{1,3}|x|r)";
    private static final String ACT = "(?:(?:set|add|max|if) [0-3] " + VALUE
            + "|(?:new|get) [0-3]|ask [0-5] " + VALUE + "|do " + VALUE + ")";
    private static final Pattern PROGRAM = Pattern.compile(ACT + "(?:;" + ACT + "){0,7}");
    private static final List<String> WORDS =
            Arrays.asList("set", "add", "max", "new", "get", "ask", "do", "if");

    private static final class Fall extends Exception {
        private static final long serialVersionUID = 1L;
    }

    private static final class Kept {
        final int key, x, tick;
        int answer;

        Kept(int key, int x, int answer, int tick) {
            this.key = key;
            this.x = x;
            this.answer = answer;
            this.tick = tick;
        }
    }

    private static final class Known {
        int x, key;
        String[] acts = new String[8];
    }

    private static final class Serv {
        List<String[]> acts = new ArrayList<>();
        int[] cells = new int[4];
        int count = 0;
        boolean[] mends = new boolean[4];
        int hold = 10;
        List<Kept> keys = new ArrayList<>();
        Known known = null;

        Serv copy() {
            Serv c = new Serv();
            c.acts = acts;
            c.cells = cells.clone();
            c.count = count;
            c.mends = mends.clone();
            c.hold = hold;
            for (Kept k : keys) {
                c.keys.add(new Kept(k.key, k.x, k.answer, k.tick));
            }
            c.known = known; // a Known is made anew by each call and never changed behind it
            return c;
        }

        String store() {
            return Arrays.toString(cells);
        }
    }

    private static final class All {
        List<Serv> servs = new ArrayList<>();
        List<Integer> outside = new ArrayList<>();
        int ticks = 0;
        int came, fall;

        All copy() {
            All c = new All();
            for (Serv s : servs) {
                c.servs.add(s.copy());
            }
            c.ticks = ticks;
            return c;
        }

        String stores() {
            StringBuilder b = new StringBuilder();
            for (Serv s : servs) {
                b.append(s.store());
            }
            return b.toString();
        }

        String counts() {
            StringBuilder b = new StringBuilder();
            for (Serv s : servs) {
                b.append(s.count).append(' ');
            }
            return b.toString();
        }

        int outer(int s, int x, int key, int atFall) {
            ticks++;
            for (Serv v : servs) {
                v.keys.removeIf(k -> ticks > k.tick + v.hold);
            }
            came = 0;
            fall = atFall;
            try {
                return inner(s, x, key);
            } catch (Fall f) {
                return -2;
            }
        }

        private int inner(int s, int x, int key) throws Fall {
            Serv v = servs.get(s);
            boolean keyed = v.mends[0] && key != 0;
            Kept mine = null;
            if (keyed) {
                for (Kept k : v.keys) {
                    if (k.key == key) {
                        return k.x == x ? k.answer : -1;
                    }
                }
                mine = new Kept(key, x, 0, ticks);
                if (v.mends[1]) {
                    keep(v, mine);
                }
            }
            Known before = v.known;
            v.known = new Known();
            v.known.x = x;
            v.known.key = key;
            boolean alike = v.mends[3] && before != null && before.x == x && before.key == key;
            int answer = 0;
            for (int i = 0; i < v.acts.size(); i++) {
                came++;
                if (came == fall || came == 61) {
                    throw new Fall();
                }
                String[] a = v.acts.get(i);
                String last = a[a.length - 1];
                boolean valued = !a[0].equals("new") && !a[0].equals("get");
                int value = !valued ? 0 : last.equals("x") ? x
                        : last.equals("r") ? Math.max(0, answer) : Integer.parseInt(last);
                int c = a[0].equals("do") ? 0 : Integer.parseInt(a[1]);
                String text = a[0] + " " + c + " " + value;
                v.known.acts[i] = text;
                boolean held = alike && text.equals(before.acts[i]);
                if (a[0].equals("set") && !held) {
                    v.cells[c] = value;
                } else if (a[0].equals("add")) {
                    v.cells[c] = (v.cells[c] + value) % 1000;
                } else if (a[0].equals("max") && !held && value > v.cells[c]) {
                    v.cells[c] = value;
                } else if (a[0].equals("new")) {
                    v.count = v.count == 999 ? 0 : v.count + 1;
                    v.cells[c] = v.count;
                    answer = v.count;
                } else if (a[0].equals("get")) {
                    answer = v.cells[c];
                } else if (a[0].equals("ask")) {
                    if (c > s && c < servs.size()) {
                        int passed = v.mends[2] && key != 0 ? (key + 7 * i) % 99 + 1 : 0;
                        answer = inner(c, value, passed);
                    }
                } else if (a[0].equals("do") && !held) {
                    outside.add(value);
                } else if (a[0].equals("if") && v.cells[c] != value) {
                    i++;
                }
            }
            if (keyed) {
                mine.answer = answer;
                if (!v.mends[1]) {
                    keep(v, mine);
                }
            }
            return answer;
        }

        private static void keep(Serv v, Kept k) {
            v.keys.add(k);
            if (v.keys.size() > 16) {
                v.keys.remove(0);
            }
        }
    }

    private final StringBuilder tape = new StringBuilder();
    private final All now = new All();
    private List<int[]> row = new ArrayList<>();
    private List<int[]> log = new ArrayList<>();
    private final int[] prices = {1, 1, 1, 1};
    private int free = 0;

    private static boolean out(int n, int most) {
        return n < 0 || n > most;
    }

    private boolean none(int s) {
        return out(s, now.servs.size() - 1);
    }

    int feed(long w, int n) {
        if (out(n - 1, 7)) {
            return -2;
        }
        if (tape.length() + n > 100) {
            return -4;
        }
        for (int i = 8 * (n - 1); i >= 0; i -= 8) {
            tape.append((char) ((w >> i) & 0xff));
        }
        return tape.length();
    }

    private int fault(String text) {
        if (PROGRAM.matcher(text).matches()) {
            return -1;
        }
        for (int i = 1; i <= text.length(); i++) {
            Matcher m = PROGRAM.matcher(text.substring(0, i));
            if (!m.matches() && !m.hitEnd()) {
                return i - 1;
            }
        }
        return text.length();
    }

    private static List<String[]> acts(String text) {
        List<String[]> acts = new ArrayList<>();
        for (String a : text.split(";")) {
            acts.add(a.split(" "));
        }
        return acts;
    }

    int service() {
        if (now.servs.size() == 6) {
            return -4;
        }
        String text = tape.toString();
        tape.setLength(0);
        if (fault(text) >= 0) {
            return -10 - fault(text);
        }
        Serv v = new Serv();
        v.acts = acts(text);
        now.servs.add(v);
        return now.servs.size() - 1;
    }

    int change(int s) {
        if (none(s)) {
            return -1;
        }
        String text = tape.toString();
        tape.setLength(0);
        if (fault(text) >= 0) {
            return -10 - fault(text);
        }
        now.servs.get(s).acts = acts(text);
        return acts(text).size();
    }

    int mend(int s, int m, int is) {
        if (none(s) || out(m, 3)) {
            return -1;
        }
        if (out(is, 1)) {
            return -2;
        }
        boolean was = now.servs.get(s).mends[m];
        now.servs.get(s).mends[m] = is == 1;
        return was ? 1 : 0;
    }

    int hold(int s, int ticks) {
        if (none(s)) {
            return -1;
        }
        if (out(ticks, 99)) {
            return -2;
        }
        int was = now.servs.get(s).hold;
        now.servs.get(s).hold = ticks;
        return was;
    }

    int set(int s, int cell, int v) {
        if (none(s) || out(cell, 3)) {
            return -1;
        }
        if (out(v, 999)) {
            return -2;
        }
        int was = now.servs.get(s).cells[cell];
        now.servs.get(s).cells[cell] = v;
        return was;
    }

    private boolean reader(int s) {
        for (String[] a : now.servs.get(s).acts) {
            if (!Arrays.asList("get", "ask", "if").contains(a[0])) {
                return false;
            }
            int t = Integer.parseInt(a[1]);
            if (a[0].equals("ask") && t > s && !none(t) && !reader(t)) {
                return false;
            }
        }
        return true;
    }

    int about(int s, int what) {
        if (none(s) || out(what, 7)) {
            return -1;
        }
        Serv v = now.servs.get(s);
        if (what < 4) {
            return v.cells[what];
        }
        if (what == 5) {
            return (int) v.keys.stream().filter(k -> now.ticks <= k.tick + v.hold).count();
        }
        return what == 4 ? v.count : what == 6 ? v.acts.size() : reader(s) ? 1 : 0;
    }

    int act(int s, int i, int what) {
        if (none(s) || out(i, now.servs.get(s).acts.size() - 1) || out(what, 2)) {
            return -1;
        }
        String[] a = now.servs.get(s).acts.get(i);
        boolean isDo = a[0].equals("do");
        if (what == 0) {
            return WORDS.indexOf(a[0]);
        }
        if (what == 1) {
            return isDo ? 0 : Integer.parseInt(a[1]);
        }
        if (a.length == 2 && !isDo) {
            return 0;
        }
        String v = a[a.length - 1];
        return v.equals("x") ? 1000 : v.equals("r") ? 1001 : Integer.parseInt(v);
    }

    int call(int s, int x, int key, int fall) {
        if (none(s)) {
            return -3;
        }
        if (out(x, 999) || out(key, 99) || out(fall, 99)) {
            return -4;
        }
        log.add(new int[] {s, x, key});
        if (log.size() > 20) {
            log.remove(0);
        }
        return now.outer(s, x, key, fall);
    }

    int outside(int i) {
        int n = now.outside.size();
        return out(i, Math.min(n, 40) - 1) ? -1 : now.outside.get(n - 1 - i);
    }

    int row(int s, int x, int key) {
        if (none(s)) {
            return -1;
        }
        if (out(x, 999) || out(key, 99)) {
            return -2;
        }
        if (row.size() == 6) {
            return -4;
        }
        row.add(new int[] {s, x, key});
        return row.size();
    }

    int clear() {
        int had = row.size();
        row = new ArrayList<>();
        return had;
    }

    int free(int is) {
        if (out(is, 1)) {
            return -2;
        }
        int was = free;
        free = is;
        return was;
    }

    private boolean isSafe(All begin, int place, int gap, int fall) {
        All once = begin.copy();
        List<Integer> due = new ArrayList<>();
        for (int[] c : row) {
            due.add(once.outer(c[0], c[1], c[2], 0));
        }
        All twice = begin.copy();
        List<int[]> coming = new ArrayList<>();
        for (int i = 0; i < row.size(); i++) {
            coming.add(new int[] {i, i == place ? 1 : 0});
        }
        coming.add(place + gap + 1, new int[] {place, 2});
        boolean like = true;
        for (int[] c : coming) {
            int[] call = row.get(c[0]);
            int answer = twice.outer(call[0], call[1], call[2], c[1] == 1 ? fall : 0);
            boolean left = c[1] == 1 && answer == -2 || c[1] == 2 && free == 1;
            like &= left || answer == due.get(c[0]);
        }
        return like && once.stores().equals(twice.stores()) && once.counts().equals(twice.counts())
                && once.outside.equals(twice.outside);
    }

    int safe(int place, int gap, int fall) {
        if (out(place, row.size() - 1)) {
            return -1;
        }
        if (out(gap, row.size() - 1 - place) || out(fall, 99)) {
            return -2;
        }
        return isSafe(now, place, gap, fall) ? 1 : 0;
    }

    private int worstFrom(All begin) {
        for (int n = 0; n < 1000 * row.size(); n++) {
            int place = n / 1000, gap = n / 100 % 10, fall = n % 100;
            if (place + gap < row.size() && fall <= 5 && !isSafe(begin, place, gap, fall)) {
                return n;
            }
        }
        return -1;
    }

    int worst() {
        return worstFrom(now);
    }

    private void permute(List<Integer> left, List<Integer> taken, Set<List<Integer>> all) {
        if (left.isEmpty()) {
            all.add(new ArrayList<>(taken));
        }
        for (int i = 0; i < left.size(); i++) {
            List<Integer> rest = new ArrayList<>(left);
            taken.add(rest.remove(i));
            permute(rest, taken, all);
            taken.remove(taken.size() - 1);
        }
    }

    private String endOf(List<Integer> order) {
        All all = now.copy();
        for (int i : order) {
            int[] c = row.get(i);
            all.outer(c[0], c[1], c[2], 0);
        }
        all.outside.sort(null);
        return all.stores() + all.outside;
    }

    int orders(int place, int what) {
        if (out(place, row.size() - 1) || out(what, 1)) {
            return -1;
        }
        if (row.size() < 2 || row.size() > 4) {
            return -3;
        }
        List<Integer> each = new ArrayList<>();
        for (int i = 0; i < row.size(); i++) {
            each.add(i);
        }
        Set<List<Integer>> once = new HashSet<>();
        permute(each, new ArrayList<>(), once);
        each.add(place);
        Set<List<Integer>> twice = new HashSet<>();
        permute(each, new ArrayList<>(), twice);
        if (what == 0) {
            return twice.size();
        }
        Set<String> ends = new HashSet<>();
        for (List<Integer> o : once) {
            ends.add(endOf(o));
        }
        int sum = 0;
        for (List<Integer> o : twice) {
            sum += ends.contains(endOf(o)) ? 1 : 0;
        }
        return sum;
    }

    int enough() {
        for (int h = 0; h <= 20; h++) {
            All begin = now.copy();
            for (Serv v : begin.servs) {
                v.hold = h;
            }
            if (worstFrom(begin) == -1) {
                return h;
            }
        }
        return -1;
    }

    int price(int m, int p) {
        if (out(m, 3)) {
            return -1;
        }
        if (out(p, 99)) {
            return -2;
        }
        int was = prices[m];
        prices[m] = p;
        return was;
    }

    private void reach(int s, Set<Integer> reached) {
        reached.add(s);
        for (String[] a : now.servs.get(s).acts) {
            if (a[0].equals("ask")) {
                int t = Integer.parseInt(a[1]);
                if (t > s && !none(t)) {
                    reach(t, reached);
                }
            }
        }
    }

    int cheapest(int what) {
        if (out(what, 1)) {
            return -1;
        }
        if (row.size() > 3) {
            return -3;
        }
        Set<Integer> reached = new TreeSet<>();
        for (int[] c : row) {
            reach(c[0], reached);
        }
        if (reached.size() > 2) {
            return -5;
        }
        List<int[]> bits = new ArrayList<>();
        for (int s : reached) {
            for (int m = 0; m < 4; m++) {
                bits.add(new int[] {s, m});
            }
        }
        int bestCost = Integer.MAX_VALUE, bestSet = -1;
        for (int set = 0; set < 1 << bits.size(); set++) {
            All begin = now.copy();
            int cost = 0, number = 0;
            for (int b = 0; b < bits.size(); b++) {
                if ((set >> b & 1) == 1) {
                    int[] bit = bits.get(b);
                    begin.servs.get(bit[0]).mends[bit[1]] = true;
                    cost += prices[bit[1]];
                    number += 1 << 4 * bit[0] + bit[1];
                }
            }
            boolean better = cost < bestCost || cost == bestCost && number < bestSet;
            if (better && worstFrom(begin) == -1) {
                bestCost = cost;
                bestSet = number;
            }
        }
        return bestSet == -1 ? -1 : what == 0 ? bestCost : bestSet;
    }

    int again() {
        All all = now.copy();
        for (int[] c : log) {
            all.outer(c[0], c[1], c[2], 0);
        }
        return all.stores().equals(now.stores()) && all.counts().equals(now.counts())
                && all.outside.isEmpty() ? 1 : 0;
    }

    int log(int i, int what) {
        return out(i, log.size() - 1) || out(what, 2) ? -1 : log.get(i)[what];
    }

    int reset() {
        int had = log.size();
        log = new ArrayList<>();
        for (Serv v : now.servs) {
            v.cells = new int[4];
            v.count = 0;
            v.keys.clear();
        }
        now.outside.clear();
        now.ticks = 0;
        return had;
    }

    int count(int what) {
        int[] all = {now.servs.size(), row.size(), now.outside.size(), now.ticks, log.size(),
            tape.length()};
        return out(what, 5) ? -1 : all[what];
    }
}
