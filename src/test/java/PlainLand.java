import java.util.ArrayDeque;
import java.util.ArrayList;
import java.util.Arrays;
import java.util.Comparator;
import java.util.Deque;
import java.util.HashMap;
import java.util.HashSet;
import java.util.List;
import java.util.Map;
import java.util.Set;

/**
 * The document once more, written in another way (whole copies, texts worked out from their signs,
 * tables of kinds), so that a slip in EmptyLand isn't made here too. Slow, and for tests alone.
 */
public final class PlainLand {
    private static final int[] ABOVE = {-1, 0, 0, 2, 0, 1, 4};
    private static final int[] GIVES = {1, 5, 3, 5, 2, 4, 3};
    private static final int[][] RATES = {{0, 20, 3}, {0, 50, 6}, {0, 50, 3}, {0, 50, 5}, {0, 9999, 100}, {-9999999, 9999999, 0}};
    private static final String[] NAMES = {"ulcy", "swn", "wn"};
    private static final int[][] BODIES = {
        {10, 11, 12, 13}, {0, 20, 0, 0}, {30, 0, 0, 0}, {41, 0, 40, 0}, {0, 0, 0, 50}, {60, 61, 0, 0}, {0, 0, 0, 70}};

    private static final class Village {
        int x;
        int y;
        int[] people = new int[3];

        int all() {
            return Arrays.stream(people).sum();
        }
    }

    private static final class Thing {
        int kind;
        int home;
        int cost;
        int least;
        int reach;
        boolean open = true;
        int promise = -1;
    }

    private static final class World {
        List<Village> villages = new ArrayList<>();
        List<Thing> things = new ArrayList<>();
        Set<Set<Integer>> mended = new HashSet<>();
        int pace = 2;
        int now = 0;
        int[] rates = Arrays.stream(RATES).mapToInt(r -> r[2]).toArray();
        String[] texts = new String[3];
        String tape = "";
        List<Integer> waiting = new ArrayList<>();
        int z = 1;

        World copy() {
            World w = new World();
            for (Village v : villages) {
                Village c = new Village();
                c.x = v.x;
                c.y = v.y;
                c.people = v.people.clone();
                w.villages.add(c);
            }
            for (Thing t : things) {
                Thing c = new Thing();
                c.kind = t.kind;
                c.home = t.home;
                c.cost = t.cost;
                c.least = t.least;
                c.reach = t.reach;
                c.open = t.open;
                c.promise = t.promise;
                w.things.add(c);
            }
            w.mended = new HashSet<>(mended);
            w.pace = pace;
            w.now = now;
            w.rates = rates.clone();
            w.texts = texts.clone();
            w.tape = tape;
            w.waiting = new ArrayList<>(waiting);
            w.z = z;
            return w;
        }

        int wayOf(int a, int b) {
            Village v = villages.get(a);
            Village w = villages.get(b);
            int far = (Math.abs(v.x - w.x) + Math.abs(v.y - w.y)) * pace;
            return a != b && mended.contains(Set.of(a, b)) ? far / 2 : far;
        }

        boolean serves(Thing t, int village) {
            return wayOf(t.home, village) <= (t.kind == 5 ? 2 * t.reach : t.reach);
        }

        int users(Thing t) {
            int users = 0;
            for (int v = 0; v < villages.size(); v++) {
                int[] p = villages.get(v).people;
                boolean own = v == t.home;
                boolean near = serves(t, v);
                switch (t.kind) {
                    case 0 -> users += own ? p[0] + p[1] + p[2] : 0;
                    case 1, 5 -> users += near ? p[0] : 0;
                    case 2 -> users += near ? p[0] + p[1] + p[2] : 0;
                    case 3 -> users += near ? p[0] + (own ? 0 : p[1]) + p[2] : 0;
                    case 4 -> users += near && !own ? p[1] + p[2] : 0;
                    default -> users += near ? p[1] + p[2] + (own ? p[0] : 0) : 0;
                }
            }
            return users;
        }

        int comfortOf(int village) {
            return things.stream().filter(t -> t.open && serves(t, village)).mapToInt(t -> GIVES[t.kind]).sum();
        }

        int havenNow() {
            int best = 0;
            for (int v = villages.size() - 1; v >= 0; v--) {
                best = comfortOf(v) >= comfortOf(best) ? v : best;
            }
            return best;
        }

        int work(int use, int... names) {
            if (texts[use] == null) {
                return use == 0 ? (names[0] < names[1] ? 1 : 0) : use == 1 ? (3 - names[0]) * 4 - names[1] : 0;
            }
            return value(texts[use], NAMES[use], names);
        }

        int go(int s, int w, int n) {
            return Math.min(100, Math.max(0, work(1, s, w, n)));
        }

        int come(int w, int n) {
            return Math.min(20, Math.max(0, work(2, w, n)));
        }

        int left() {
            return villages.stream().mapToInt(Village::all).sum();
        }

        World ahead(int n) {
            World w = copy();
            for (int i = 0; i < n; i++) {
                w.year();
            }
            return w;
        }

        void year() {
            for (Thing t : things) {
                if (t.open && t.promise < now && work(0, users(t), t.least, t.cost, now) != 0) {
                    t.open = false;
                }
            }
            World was = copy();
            int haven = villages.isEmpty() ? -1 : havenNow();
            long[][] more = new long[villages.size()][3];
            for (int v = 0; v < villages.size(); v++) {
                Village old = was.villages.get(v);
                for (int s = 0; s < 3; s++) {
                    long off = (long) old.people[s] * go(s, was.comfortOf(v), old.all()) / 100;
                    more[v][s] -= off;
                    if (v != haven) {
                        more[haven][s] += off / 2;
                    }
                }
            }
            add(more);
            more = new long[villages.size()][3];
            for (int v = 0; v < villages.size(); v++) {
                int all = villages.get(v).all();
                more[v][1] = (long) all * come(comfortOf(v), all) / 100;
            }
            add(more);
            more = new long[villages.size()][3];
            for (int v = 0; v < villages.size(); v++) {
                int[] p = villages.get(v).people;
                more[v][0] = p[1] * rates[0] / 100 - p[0] * rates[1] / 100;
                more[v][1] = p[0] * rates[1] / 100 - p[1] * rates[2] / 100;
                more[v][2] = p[1] * rates[2] / 100 - p[2] * rates[3] / 100;
            }
            add(more);
            rates[5] += rates[4] - things.stream().filter(t -> t.open).mapToInt(t -> t.cost).sum();
            now++;
        }

        private void add(long[][] more) {
            for (int v = 0; v < villages.size(); v++) {
                int[] p = villages.get(v).people;
                for (int s = 0; s < 3; s++) {
                    p[s] = (int) Math.min(99999, p[s] + more[v][s]);
                }
            }
        }
    }

    private World world = new World();
    private World kept = null;
    private int images = 0;
    private final int[][] sheets = new int[4][];
    private final int[] bits = new int[4];
    private final List<Integer> traced = new ArrayList<>();
    private final Map<Integer, Integer> errors = new HashMap<>();

    private int error(int k) {
        errors.merge(k, 1, Integer::sum);
        return -1000000000 - k;
    }

    private static boolean in(int v, int least, int most) {
        return least <= v && v <= most;
    }

    private boolean v(int village) {
        return in(village, 0, world.villages.size() - 1);
    }

    private boolean t(int thing) {
        return in(thing, 0, world.things.size() - 1);
    }

    // ---- texts

    /** The place of an operator of the loosest binding of the given ones, the last outside brackets, or -1. */
    private static int lastOf(String text, String signs) {
        int deep = 0;
        for (int i = text.length() - 1; i >= 0; i--) {
            char c = text.charAt(i);
            deep += c == ')' ? 1 : c == '(' ? -1 : 0;
            if (deep == 0 && signs.indexOf(c) >= 0) {
                return i;
            }
        }
        return -1;
    }

    static int value(String text, String names, int... values) {
        for (String signs : new String[] {"|", "&", "<=>", "+-", "*/%"}) {
            int at = lastOf(text, signs);
            if (at >= 0) {
                int a = value(text.substring(0, at), names, values);
                int b = value(text.substring(at + 1), names, values);
                return switch (text.charAt(at)) {
                    case '|' -> a != 0 || b != 0 ? 1 : 0;
                    case '&' -> a != 0 && b != 0 ? 1 : 0;
                    case '<' -> a < b ? 1 : 0;
                    case '=' -> a == b ? 1 : 0;
                    case '>' -> a > b ? 1 : 0;
                    case '+' -> a + b;
                    case '-' -> a - b;
                    case '*' -> a * b;
                    case '/' -> b == 0 ? 0 : a / b;
                    default -> b == 0 ? 0 : a % b;
                };
            }
        }
        char first = text.charAt(0);
        if (first == '!') {
            return value(text.substring(1), names, values) == 0 ? 1 : 0;
        }
        if (first == '(') {
            return value(text.substring(1, text.length() - 1), names, values);
        }
        return Character.isDigit(first) ? Integer.parseInt(text) : values[names.indexOf(first)];
    }

    /** The FAULT by looking at one sign after the other, or -1. */
    static int fault(String text, String names) {
        Deque<Character> open = new ArrayDeque<>();
        Deque<Boolean> compared = new ArrayDeque<>(List.of(false));
        boolean wanted = true;
        int digits = 4;
        for (int i = 0; i < text.length(); i++) {
            char c = text.charAt(i);
            boolean digit = c >= '0' && c <= '9';
            if (wanted && (c == '!' || c == '(')) {
                if (open.size() == 5) {
                    return i;
                }
                open.push(c);
                if (c == '(') {
                    compared.push(false);
                }
                continue;
            }
            if (wanted && (digit || names.indexOf(c) >= 0)) {
                digits = digit ? 1 : 4;
            } else if (!wanted && digit && digits < 4) {
                digits++;
            } else if (!wanted && c == ')' && !open.isEmpty()) {
                open.pop();
                compared.pop();
                digits = 4;
            } else if (!wanted && "+-*/%".indexOf(c) >= 0) {
                wanted = true;
                continue;
            } else if (!wanted && "|&".indexOf(c) >= 0 || !wanted && "<=>".indexOf(c) >= 0 && !compared.peek()) {
                compared.pop();
                compared.push("<=>".indexOf(c) >= 0);
                wanted = true;
                continue;
            } else {
                return i;
            }
            wanted = false;
            while (!open.isEmpty() && open.peek() == '!') {
                open.pop();
            }
        }
        return wanted || !open.isEmpty() ? text.length() : -1;
    }

    // ---- the face

    public int village(int place, int young, int grown, int old) {
        if (!asTold(place, young, grown, old)) {
            return error(1);
        }
        return world.villages.size() == 8 ? error(4) : come(place, young, grown, old);
    }

    private static boolean asTold(int place, int... people) {
        return in(place, 0, 3030) && place % 100 <= 30 && Arrays.stream(people).allMatch(p -> in(p, 0, 99999));
    }

    private int come(int place, int... people) {
        Village v = new Village();
        v.x = place / 100;
        v.y = place % 100;
        v.people = people.clone();
        world.villages.add(v);
        return world.villages.size() - 1;
    }

    public int people(int village, int sort) {
        if (!v(village) || !in(sort, 0, 4)) {
            return error(1);
        }
        Village one = world.villages.get(village);
        return sort == 4 ? 100 * one.x + one.y : sort == 3 ? one.all() : one.people[sort];
    }

    public int become(int village, int sort, int v) {
        if (!v(village) || !in(sort, 0, 2) || !in(v, 0, 99999)) {
            return error(1);
        }
        int was = people(village, sort);
        world.villages.get(village).people[sort] = v;
        return was;
    }

    public int villages(int sheet) {
        if (!in(sheet, 0, 3)) {
            return error(1);
        }
        if (sheets[sheet] == null) {
            return error(2);
        }
        int[] s = sheets[sheet];
        int came = 0;
        while (4 * came + 4 <= s.length && world.villages.size() < 8
            && asTold(s[4 * came], s[4 * came + 1], s[4 * came + 2], s[4 * came + 3])) {
            come(s[4 * came], s[4 * came + 1], s[4 * came + 2], s[4 * came + 3]);
            came++;
        }
        return came;
    }

    private int draw(int by) {
        world.z = world.z * 1103515245 + 12345;
        return (world.z >>> 8) % by;
    }

    public int made(int n) {
        if (!in(n, 1, 8)) {
            return error(1);
        }
        if (world.villages.size() > 8 - n) {
            return error(4);
        }
        for (int i = 0; i < n; i++) {
            int x = draw(31);
            int y = draw(31);
            int young = draw(100);
            int grown = draw(300);
            come(100 * x + y, young, grown, draw(200));
        }
        return world.villages.size();
    }

    public int pace(int v) {
        if (!in(v, 1, 9)) {
            return error(1);
        }
        int was = world.pace;
        world.pace = v;
        return was;
    }

    public int way(int one, int other) {
        return v(one) && v(other) ? world.wayOf(one, other) : error(1);
    }

    public int mend(int one, int other, int is) {
        if (!v(one) || !v(other) || one == other || !in(is, 0, 1)) {
            return error(1);
        }
        Set<Integer> two = Set.of(one, other);
        boolean changed = is == 1 ? world.mended.add(two) : world.mended.remove(two);
        return changed ? 1 - is : is;
    }

    public int thing(int kv, int cost, int least, int reach) {
        if (!in(kv, 0, 69) || !v(kv % 10) || !in(cost, 0, 999) || !in(least, 0, 9999) || !in(reach, 0, 300)) {
            return error(1);
        }
        return world.things.size() == 10 ? error(4) : build(kv / 10, kv % 10, cost, least, reach);
    }

    private int build(int kind, int home, int cost, int least, int reach) {
        Thing t = new Thing();
        t.kind = kind;
        t.home = home;
        t.cost = cost;
        t.least = least;
        t.reach = reach;
        world.things.add(t);
        return world.things.size() - 1;
    }

    public int ofThing(int thing, int what) {
        if (!t(thing) || !in(what, 0, 9)) {
            return error(1);
        }
        Thing t = world.things.get(thing);
        int served = 0;
        for (int v = 0; v < world.villages.size(); v++) {
            served += world.serves(t, v) ? 1 << v : 0;
        }
        return new int[] {t.kind, t.home, t.cost, t.least, t.reach, t.open ? 1 : 0, t.promise, world.users(t),
            GIVES[t.kind], served}[what];
    }

    public int as(int thing, int kind) {
        if (!t(thing) || !in(kind, 0, 6)) {
            return error(1);
        }
        for (int k = world.things.get(thing).kind; k >= 0; k = ABOVE[k]) {
            if (k == kind) {
                return world.things.get(thing).least;
            }
        }
        return error(5);
    }

    public int open(int thing, int is) {
        if (!t(thing) || !in(is, 0, 1)) {
            return error(1);
        }
        boolean was = world.things.get(thing).open;
        world.things.get(thing).open = is == 1;
        return was ? 1 : 0;
    }

    public int promise(int thing, int year) {
        if (!t(thing) || !in(year, -1, 199)) {
            return error(1);
        }
        int was = world.things.get(thing).promise;
        world.things.get(thing).promise = year;
        return was;
    }

    public int comfort(int village) {
        return v(village) ? world.comfortOf(village) : error(1);
    }

    public int haven() {
        return world.villages.isEmpty() ? error(2) : world.havenNow();
    }

    public int feed(long word, int n) {
        if (!in(n, 1, 8)) {
            return error(1);
        }
        if (world.tape.length() + n > 50) {
            return error(4);
        }
        for (int i = 0; i < n; i++) {
            world.tape += (char) (word & 0xFF);
            word >>= 8;
        }
        return world.tape.length();
    }

    public int text(int use) {
        if (!in(use, 0, 2)) {
            return error(1);
        }
        String text = world.tape;
        world.tape = "";
        int fault = fault(text, NAMES[use]);
        if (fault >= 0) {
            return -10 - fault;
        }
        world.texts[use] = text;
        return 1;
    }

    public int law(int use, int a, int b, int c) {
        return switch (use) {
            case 0 -> world.work(0, a, b, c, 0) != 0 ? 1 : 0;
            case 1 -> world.go(a, b, c);
            case 2 -> world.come(a, b);
            default -> error(1);
        };
    }

    public int rate(int rate, int v) {
        if (!in(rate, 0, 5) || !in(v, RATES[rate][0], RATES[rate][1])) {
            return error(1);
        }
        int was = world.rates[rate];
        world.rates[rate] = v;
        return was;
    }

    public int years(int n) {
        if (!in(n, 1, 50)) {
            return error(1);
        }
        if (world.now > 199 - n) {
            return error(3);
        }
        world = world.ahead(n);
        return world.now;
    }

    public int left(int n, int what) {
        if (!in(n, 0, 40) || !in(what, 0, 3)) {
            return error(1);
        }
        World w = world.ahead(n);
        int all = 0;
        for (int i = 0; i < w.villages.size(); i++) {
            all += w.comfortOf(i);
        }
        int open = 0;
        for (int i = 0; i < w.things.size(); i++) {
            open |= w.things.get(i).open ? 1 << i : 0;
        }
        return new int[] {w.left(), w.rates[5], open, all}[what];
    }

    public int then(int n, int village, int sort) {
        if (!in(n, 0, 40) || !v(village) || !in(sort, 0, 3)) {
            return error(1);
        }
        Village v = world.ahead(n).villages.get(village);
        return sort == 3 ? v.all() : v.people[sort];
    }

    public int falls(int village, int n) {
        if (!v(village) || !in(n, 0, 40)) {
            return error(1);
        }
        for (int k = 0; k <= n; k++) {
            if (world.ahead(k).villages.get(village).all() == 0) {
                return k;
            }
        }
        return error(2);
    }

    public int broke(int n) {
        if (!in(n, 0, 40)) {
            return error(1);
        }
        for (int k = 0; k <= n; k++) {
            if (world.ahead(k).rates[5] < 0) {
                return k;
            }
        }
        return error(2);
    }

    public int rest(int n) {
        if (!in(n, 1, 40)) {
            return error(1);
        }
        for (int k = 1; k <= n; k++) {
            World one = world.ahead(k - 1);
            World two = world.ahead(k);
            boolean same = true;
            for (int v = 0; v < one.villages.size(); v++) {
                same &= Arrays.equals(one.villages.get(v).people, two.villages.get(v).people);
            }
            if (same) {
                return k;
            }
        }
        return error(2);
    }

    public int keep(int c, int n, int what) {
        if (!in(c, 0, 9999) || !in(n, 0, 40) || !in(what, 0, 1)) {
            return error(1);
        }
        List<Integer> six = new ArrayList<>();
        for (int i = 0; i < world.things.size(); i++) {
            if (world.things.get(i).open && six.size() < 6) {
                six.add(i);
            }
        }
        List<int[]> sets = new ArrayList<>();
        for (int pick = 0; pick < 1 << six.size(); pick++) {
            World w = world.copy();
            int cost = 0;
            int bits = 0;
            for (int i = 0; i < six.size(); i++) {
                boolean in = (pick >> i & 1) == 1;
                w.things.get(six.get(i)).open = in;
                cost += in ? w.things.get(six.get(i)).cost : 0;
                bits += in ? 1 << six.get(i) : 0;
            }
            if (cost <= c) {
                sets.add(new int[] {bits, w.ahead(n).left(), cost});
            }
        }
        sets.sort(Comparator.comparingInt((int[] s) -> -s[1]).thenComparingInt(s -> s[2]).thenComparingInt(s -> s[0]));
        return sets.get(0)[what];
    }

    public int when(int thing, int n) {
        if (!t(thing) || !in(n, 0, 40)) {
            return error(1);
        }
        if (!world.things.get(thing).open) {
            return error(3);
        }
        int best = n;
        int most = world.ahead(n).left();
        for (int k = n - 1; k >= 0; k--) {
            World w = world.ahead(k);
            w.things.get(thing).open = false;
            int left = w.ahead(n - k).left();
            if (left >= most) {
                best = k;
                most = left;
            }
        }
        return best;
    }

    public int worth(int thing, int n) {
        if (!t(thing) || !in(n, 0, 40)) {
            return error(1);
        }
        World with = world.copy();
        World without = world.copy();
        with.things.get(thing).open = true;
        without.things.get(thing).open = false;
        return with.ahead(n).left() - without.ahead(n).left();
    }

    public int promised(int thing, int year, int n) {
        if (!t(thing) || !in(year, 0, 199) || !in(n, 0, 40)) {
            return error(1);
        }
        World with = world.copy();
        World without = world.copy();
        with.things.get(thing).promise = year;
        without.things.get(thing).promise = -1;
        return with.ahead(n).left() - without.ahead(n).left();
    }

    public int edge(int thing, int n) {
        if (!t(thing) || !in(n, 0, 40)) {
            return error(1);
        }
        for (int young = 0; young <= 400; young++) {
            World w = world.copy();
            w.villages.get(w.things.get(thing).home).people[0] = young;
            if (w.ahead(n).things.get(thing).open) {
                return young;
            }
        }
        return error(2);
    }

    private int siteOf(int one) {
        int best = 0;
        int most = -1;
        for (int v = 0; v < world.villages.size(); v++) {
            World w = world.copy();
            w.things.get(one).home = v;
            int users = w.users(w.things.get(one));
            if (users > most) {
                most = users;
                best = v;
            }
        }
        return best;
    }

    public int site(int one, int other) {
        if (!t(one) || !t(other) || one == other) {
            return error(1);
        }
        return world.things.get(one).kind == world.things.get(other).kind ? siteOf(one) : error(5);
    }

    public int join(int one, int other) {
        if (!t(one) || !t(other) || one == other) {
            return error(1);
        }
        Thing a = world.things.get(one);
        Thing b = world.things.get(other);
        if (a.kind != b.kind) {
            return error(5);
        }
        if (world.things.size() == 10) {
            return error(4);
        }
        a.open = false;
        b.open = false;
        return build(a.kind, siteOf(one), Math.min(999, a.cost + b.cost), a.least, a.reach);
    }

    public int road(int n) {
        if (!in(n, 0, 40)) {
            return error(1);
        }
        int best = -1;
        int most = -1;
        for (int a = world.villages.size() - 1; a >= 0; a--) {
            for (int b = world.villages.size() - 1; b > a; b--) {
                World w = world.copy();
                if (w.mended.add(Set.of(a, b)) && w.ahead(n).left() >= most) {
                    best = 10 * a + b;
                    most = w.ahead(n).left();
                }
            }
        }
        return best < 0 ? error(2) : best;
    }

    public int seed(int v) {
        int was = world.z;
        world.z = v;
        return was;
    }

    public int voice(int thing, int act, int x) {
        if (!t(thing) || !in(act, 0, 3)) {
            return error(1);
        }
        traced.clear();
        return say(thing, world.things.get(thing).kind, act, x);
    }

    /** The BODY of an act from a KIND on. */
    private int say(int n, int from, int act, int x) {
        int k = from;
        while (BODIES[k][act] == 0) {
            k = ABOVE[k];
        }
        int own = world.things.get(n).kind;
        int above = ABOVE[k];
        int l = world.things.get(n).least;
        if (traced.size() < 40) {
            traced.add(BODIES[k][act]);
        }
        int a;
        switch (BODIES[k][act]) {
            case 10: return x + n;
            case 11: return 2 * say(n, own, 0, x);
            case 12: return x - l;
            case 13: a = say(n, own, 1, x); return a ^ say(n, own, 2, x);
            case 20: a = say(n, above, 1, x); return a - say(n, own, 2, 1);
            case 30: return 3 * say(n, above, 0, x);
            case 40: return -say(n, above, 2, x);
            case 41: return say(n, above, 0, x + 1);
            case 50: a = say(n, above, 3, x); return a - say(n, own, 0, 2);
            case 60: return n ^ say(n, above, 0, x);
            case 61: return 5 + say(n, above, 1, x);
            default: a = say(n, own, 1, x); return a - say(n, above, 3, x);
        }
    }

    public int trace(int i) {
        return in(i, 0, traced.size() - 1) ? traced.get(i) : error(2);
    }

    public int sheet(int sheet, int bits, int n) {
        if (!in(sheet, 0, 3) || !List.of(0, 8, 16, 32).contains(bits)) {
            return error(1);
        }
        if (bits != 0 && n < 0) {
            return error(3);
        }
        if (bits != 0 && n > 40) {
            return error(1);
        }
        sheets[sheet] = bits == 0 ? null : new int[n];
        this.bits[sheet] = bits;
        return 1;
    }

    public int put(int sheet, int i, int v) {
        if (!in(sheet, 0, 3)) {
            return error(1);
        }
        if (sheets[sheet] == null) {
            return error(2);
        }
        if (!in(i, 0, sheets[sheet].length - 1)) {
            return error(1);
        }
        int off = 32 - bits[sheet];
        sheets[sheet][i] = v << off >> off;
        return 1;
    }

    public int move(int sheet, int i, int other, int j, int n) {
        if (!in(sheet, 0, 3) || !in(other, 0, 3)) {
            return error(1);
        }
        if (sheets[sheet] == null || sheets[other] == null) {
            return error(2);
        }
        if (bits[sheet] != bits[other]) {
            return error(5);
        }
        if (n < 0 || i < 0 || j < 0 || (long) i + n > sheets[sheet].length || (long) j + n > sheets[other].length) {
            return error(1);
        }
        int[] was = sheets[sheet].clone();
        for (int k = 0; k < n; k++) {
            sheets[other][j + k] = was[i + k];
        }
        return n;
    }

    public int image() {
        kept = world.copy();
        return ++images;
    }

    public int restore() {
        if (kept == null) {
            return error(2);
        }
        world = kept.copy();
        return world.now;
    }

    public int tell(int v) {
        if (world.waiting.size() == 20) {
            return error(4);
        }
        world.waiting.add(v);
        return world.waiting.size();
    }

    public int check(int n) {
        List<Integer> told = world.waiting;
        world.waiting = new ArrayList<>();
        if (!in(n, 0, 40)) {
            return error(1);
        }
        World w = world.ahead(n);
        List<Integer> want = new ArrayList<>();
        for (int v = 0; v < w.villages.size(); v++) {
            want.add(v);
        }
        want.sort(Comparator.comparingInt(v -> -w.villages.get(v).all()));
        for (int i = 0; i < Math.max(told.size(), want.size()); i++) {
            if (i >= told.size() || i >= want.size() || !told.get(i).equals(want.get(i))) {
                return 1 + i;
            }
        }
        return 0;
    }

    public int count(int what) {
        if (!in(what, 0, 8)) {
            return error(1);
        }
        return new int[] {world.now, world.villages.size(), world.things.size(),
            (int) world.things.stream().filter(t -> t.open).count(), world.rates[5], world.tape.length(),
            world.waiting.size(), traced.size(), world.z}[what];
    }

    public int told(int k) {
        return in(k, 1, 5) ? errors.getOrDefault(k, 0) : error(1);
    }
}
