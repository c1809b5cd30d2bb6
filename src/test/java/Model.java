import java.util.ArrayList;
import java.util.Arrays;
import java.util.List;

/** A second reading of the document, as plain and slow as can be; only ModelTest uses it. */
final class Model {
    static final long FAR = Long.MAX_VALUE / 4;

    static final class World {
        List<int[]> roads = new ArrayList<>();
        List<int[]> bridges = new ArrayList<>();
        List<int[]> waggons = new ArrayList<>();
        List<int[]> parts = new ArrayList<>();
        int weight = 100;
        int mile = 2;
        int frost = 0;
        int[] trip = null;

        World copy() {
            World w = new World();
            roads.forEach(r -> w.roads.add(r.clone()));
            bridges.forEach(b -> w.bridges.add(b.clone()));
            waggons.forEach(v -> w.waggons.add(v.clone()));
            parts.forEach(p -> w.parts.add(p.clone()));
            w.weight = weight;
            w.mile = mile;
            w.frost = frost;
            w.trip = trip == null ? null : trip.clone();
            return w;
        }
    }

    private World w = new World();
    private World kept = null;
    private final Object[] shelves = new Object[8];
    private final int[] sorts = new int[8];
    private String tape = "";
    private final int[] refused = new int[5];

    private int no(int number) {
        refused[-number - 2]++;
        return number;
    }

    private static boolean in(long v, long a, long b) {
        return a <= v && v <= b;
    }

    private static boolean place(int p) {
        return in(p, 0, 15);
    }

    private boolean pack(int waggon, int parts) {
        if (!in(waggon, 0, w.waggons.size() - 1)) {
            return false;
        }
        for (int bit = 0; bit < 32; bit++) {
            if ((parts >>> bit & 1) == 1 && bit >= w.parts.size()) {
                return false;
            }
        }
        return true;
    }

    // ---- shelves

    long row(int s, int sort, int n) {
        if (!in(s, 0, 7) || !in(sort, 0, 4) || !in(n, 0, 40)) {
            return no(-2);
        }
        shelves[s] = new long[n];
        sorts[s] = sort;
        return 1;
    }

    long set(int s, int i, long v) {
        if (!in(s, 0, 7)) {
            return no(-2);
        }
        if (shelves[s] instanceof Integer) {
            return no(-3);
        }
        if (shelves[s] == null) {
            return no(-4);
        }
        long[] a = (long[]) shelves[s];
        if (!in(i, 0, a.length - 1)) {
            return no(-2);
        }
        int[] bits = {8, 16, 32, 64};
        a[i] = sorts[s] == 4 ? (v == 0 ? 0 : 1) : v << 64 - bits[sorts[s]] >> 64 - bits[sorts[s]];
        return 1;
    }

    long copy(int p, int q, int i, int j, int n) {
        if (!in(p, 0, 7) || !in(q, 0, 7)) {
            return no(-2);
        }
        Object a = shelves[p];
        Object b = shelves[q];
        if (a instanceof Integer || b instanceof Integer || a != null && b != null && sorts[p] != sorts[q]) {
            return no(-3);
        }
        if (a == null || b == null) {
            return no(-4);
        }
        long[] from = ((long[]) a).clone();
        long[] to = (long[]) b;
        if (n < 0 || i < 0 || j < 0 || (long) i + n > from.length || (long) j + n > to.length) {
            return no(-2);
        }
        for (int k = 0; k < n; k++) {
            to[j + k] = from[i + k];
        }
        return n;
    }

    long element(int s, int i) {
        return in(s, 0, 7) && shelves[s] instanceof long[] a && in(i, 0, a.length - 1) ? a[i] : 0;
    }

    long holds(int s) {
        if (!in(s, 0, 7) || shelves[s] == null) {
            return -1;
        }
        return shelves[s] instanceof Integer b ? 10 + b : sorts[s];
    }

    long show(int s, int bridge) {
        if (!in(s, 0, 7) || !in(bridge, -1, w.bridges.size() - 1)) {
            return no(-2);
        }
        shelves[s] = bridge == -1 ? null : Integer.valueOf(bridge);
        return 1;
    }

    long says(int s, int kind) {
        if (!in(s, 0, 7) || !in(kind, 0, 5)) {
            return no(-2);
        }
        if (shelves[s] == null) {
            return no(-4);
        }
        if (!(shelves[s] instanceof Integer b)) {
            return no(-3);
        }
        int[] under = {-1, 0, 1, 0, 0, 4};
        int k = w.bridges.get(b)[1];
        while (k != -1 && k != kind) {
            k = under[k];
        }
        if (k == -1) {
            return no(-3);
        }
        int[] br = w.bridges.get(b);
        return new long[] {br[0], bearsAxle(br), bearsAxle(br), br[2], br[9], bearsAll(br)}[kind];
    }

    // ---- the land

    long road(int from, int to, int miles, int rise, int turn, int parish) {
        if (!place(from) || !place(to) || from == to || !in(miles, 1, 60) || !in(rise, 0, 9) || !in(turn, 1, 99)
                || !in(parish, 0, 15)) {
            return no(-2);
        }
        if (w.roads.size() == 24) {
            return no(-6);
        }
        w.roads.add(new int[] {from, to, miles, rise, turn, parish, 0});
        return w.roads.size() - 1;
    }

    long bridge(int road, int kind, int span, int axle, int all) {
        if (!in(road, 0, w.roads.size() - 1) || !in(kind, 0, 5) || !in(span, 0, 60) || !in(axle, 1, 99)
                || !in(all, 1, 999)) {
            return no(-2);
        }
        if (w.bridges.size() == 16) {
            return no(-6);
        }
        w.bridges.add(new int[] {road, kind, span, axle, all, 0, 0, 0, 0, 0});
        return w.bridges.size() - 1;
    }

    long prop(int bridge, int more, int coin) {
        if (!in(bridge, 0, w.bridges.size() - 1) || !in(more, 0, 999) || !in(coin, 0, 999)) {
            return no(-2);
        }
        w.bridges.get(bridge)[5] = more;
        w.bridges.get(bridge)[6] = coin;
        return 1;
    }

    long waggon(int axles, int space, int tare) {
        if (!in(axles, 2, 12) || !in(space, 1, 9) || !in(tare, 0, 99)) {
            return no(-2);
        }
        if (w.waggons.size() == 5) {
            return no(-6);
        }
        w.waggons.add(new int[] {axles, space, tare});
        return w.waggons.size() - 1;
    }

    long part(int weight, int coin) {
        if (!in(weight, 1, 99) || !in(coin, 0, 99)) {
            return no(-2);
        }
        if (w.parts.size() == 5) {
            return no(-6);
        }
        w.parts.add(new int[] {weight, coin});
        return w.parts.size() - 1;
    }

    long ask(int what, int v) {
        int was;
        if (what == 0 && in(v, 0, 900)) {
            was = w.weight;
            w.weight = v;
        } else if (what == 1 && in(v, 0, 99)) {
            was = w.mile;
            w.mile = v;
        } else if (what == 2 && in(v, 0, 1)) {
            was = w.frost;
            w.frost = v;
        } else {
            return no(-2);
        }
        return was;
    }

    long stand(int bridge, int what, boolean is) {
        if (!in(bridge, 0, w.bridges.size() - 1) || !in(what, 0, 2)) {
            return no(-2);
        }
        int[] b = w.bridges.get(bridge);
        if (b[1] == 3 && what == 0 && is) {
            return no(-5);
        }
        boolean was = b[7 + what] == 1;
        b[7 + what] = is ? 1 : 0;
        return was == is ? 0 : 1;
    }

    long shut(int road, boolean is) {
        if (!in(road, 0, w.roads.size() - 1)) {
            return no(-2);
        }
        boolean was = w.roads.get(road)[6] == 1;
        w.roads.get(road)[6] = is ? 1 : 0;
        return was == is ? 0 : 1;
    }

    // ---- the tape

    long feed(int v, int n) {
        if (!in(n, 1, 4)) {
            return no(-2);
        }
        if (tape.length() + n > 250) {
            return no(-6);
        }
        for (int k = n; k > 0; k--) {
            tape += (char) (v >>> 8 * (k - 1) & 0xFF);
        }
        return tape.length();
    }

    long wipe() {
        int was = tape.length();
        tape = "";
        return was;
    }

    /** {word, what follows: a range for a number, a word that must be, in brackets a group that may be.} */
    private static final String[] GRAMMAR = {
        "road 0-15 0-15 miles 1-60 [ rise 0-9 ] [ turn 1-99 ] [ parish 0-15 ]",
        "bridge R kind 0-5 span 0-60 axle 1-99 all 1-999 [ prop 0-999 0-999 ]",
        "waggon 2-12 space 1-9 tare 0-99", "load 0-900", "part 1-99 0-99", "mile 0-99"};

    private static final class Fault extends Exception {
        private static final long serialVersionUID = 1;
        final int at;

        Fault(int at) {
            this.at = at;
        }
    }

    private List<String> texts;
    private List<Integer> starts;
    private int at;

    long land() {
        World before = w.copy();
        String was = tape;
        tape = "";
        try {
            tokens(was);
            int statements = 0;
            while (true) {
                statement();
                statements++;
                if (texts.get(at).isEmpty()) {
                    return statements;
                }
                want(";");
            }
        } catch (Fault f) {
            w = before;
            no(-2);
            return -20 - f.at;
        }
    }

    private void tokens(String s) {
        texts = new ArrayList<>();
        starts = new ArrayList<>();
        at = 0;
        java.util.regex.Matcher m = java.util.regex.Pattern.compile("[a-z]+|[0-9]+|[^ ]", java.util.regex.Pattern.DOTALL).matcher(s);
        while (m.find()) {
            texts.add(m.group());
            starts.add(m.start());
        }
        texts.add("");
        starts.add(s.length());
    }

    private Fault fault() {
        return new Fault(starts.get(at));
    }

    private void want(String word) throws Fault {
        if (!texts.get(at).equals(word)) {
            throw fault();
        }
        at++;
    }

    private int number(String range) throws Fault {
        String t = texts.get(at);
        if (!t.matches("[0-9]{1,3}")) {
            throw fault();
        }
        int v = Integer.parseInt(t);
        String r = range.equals("R") ? "0-" + w.roads.size() : range;
        int least = Integer.parseInt(r.split("-")[0]);
        int most = Integer.parseInt(r.split("-")[1]) - (range.equals("R") ? 1 : 0);
        if (v < least || v > most) {
            throw fault();
        }
        at++;
        return v;
    }

    private void statement() throws Fault {
        for (int g = 0; g < GRAMMAR.length; g++) {
            String[] items = GRAMMAR[g].split(" ");
            if (texts.get(at).equals(items[0])) {
                int[] sizes = {w.roads.size(), w.bridges.size(), w.waggons.size(), 0, w.parts.size(), 0};
                int[] rooms = {24, 16, 5, 1, 5, 1};
                if (sizes[g] == rooms[g]) {
                    throw fault();
                }
                at++;
                build(g, numbers(g, items));
                return;
            }
        }
        throw fault();
    }

    /** The numbers told, and -1 for those that weren't. */
    private List<Integer> numbers(int g, String[] items) throws Fault {
        List<Integer> got = new ArrayList<>();
        boolean skip = false;
        for (int k = 1; k < items.length; k++) {
            String item = items[k];
            if (item.equals("]")) {
                skip = false;
            } else if (item.equals("[")) {
                skip = !texts.get(at).equals(items[k + 1]);
            } else if (!Character.isDigit(item.charAt(0)) && !item.equals("R")) {
                if (!skip) {
                    want(item);
                }
            } else {
                if (g == 0 && k == 2 && texts.get(at).matches("[0-9]{1,3}") && Integer.parseInt(texts.get(at)) == got.get(0)) {
                    throw fault();
                }
                got.add(skip ? -1 : number(item));
            }
        }
        return got;
    }

    private static int or(int v, int otherwise) {
        return v == -1 ? otherwise : v;
    }

    private void build(int g, List<Integer> v) {
        switch (g) {
            case 0 -> road(v.get(0), v.get(1), v.get(2), or(v.get(3), 0), or(v.get(4), 99), or(v.get(5), 0));
            case 1 -> prop((int) bridge(v.get(0), v.get(1), v.get(2), v.get(3), v.get(4)), or(v.get(5), 0), or(v.get(6), 0));
            case 2 -> waggon(v.get(0), v.get(1), v.get(2));
            case 3 -> w.weight = v.get(0);
            case 4 -> part(v.get(0), v.get(1));
            default -> w.mile = v.get(0);
        }
    }

    // ---- one thing

    long roadOf(int road, int what) {
        return in(road, 0, w.roads.size() - 1) && in(what, 0, 6) ? w.roads.get(road)[what] : no(-2);
    }

    long bridgeOf(int bridge, int what) {
        return in(bridge, 0, w.bridges.size() - 1) && in(what, 0, 9) ? w.bridges.get(bridge)[what] : no(-2);
    }

    private int bearsAxle(int[] b) {
        int[] by = {b[3], b[3], b[3] + 5, b[3], b[9] == 1 ? b[3] : b[3] / 2, 0};
        by[5] = w.frost == 1 ? by[4] : 0;
        return b[8] == 1 ? 0 : by[b[1]];
    }

    private int bearsAll(int[] b) {
        int stone = b[4] + (int) Math.floor(b[4] / 10.0);
        int[] by = {b[4], stone, stone, b[4], b[9] == 1 ? b[4] : b[4] / 2, 0};
        by[5] = w.frost == 1 ? by[4] : 0;
        return b[8] == 1 ? 0 : by[b[1]] + (b[7] == 1 ? b[5] : 0);
    }

    long bears(int bridge, boolean all) {
        if (!in(bridge, 0, w.bridges.size() - 1)) {
            return no(-2);
        }
        return all ? bearsAll(w.bridges.get(bridge)) : bearsAxle(w.bridges.get(bridge));
    }

    private int len(int waggon) {
        int[] v = w.waggons.get(waggon);
        return v[1] * (v[0] - 1) + 4;
    }

    long length(int waggon) {
        return in(waggon, 0, w.waggons.size() - 1) ? len(waggon) : no(-2);
    }

    private int partsSum(int parts, int column) {
        int sum = 0;
        for (int k = 0; k < w.parts.size(); k++) {
            sum += (parts >> k & 1) * w.parts.get(k)[column];
        }
        return sum;
    }

    private int axleLoad(int waggon, int parts) {
        int[] v = w.waggons.get(waggon);
        int all = v[2] + w.weight - partsSum(parts, 0);
        return (int) Math.ceil(Math.max(0, all) / (double) v[0]);
    }

    long axle(int waggon, int parts) {
        return pack(waggon, parts) ? axleLoad(waggon, parts) : no(-2);
    }

    private int strained(int waggon, int parts, int[] b) {
        int[] v = w.waggons.get(waggon);
        int best = 1;
        for (int first = 0; first < v[0]; first++) {
            for (int last = first; last < v[0]; last++) {
                if (last * v[1] - first * v[1] <= b[2]) {
                    best = Math.max(best, last - first + 1);
                }
            }
        }
        return best * axleLoad(waggon, parts);
    }

    long strain(int waggon, int parts, int bridge) {
        return pack(waggon, parts) && in(bridge, 0, w.bridges.size() - 1)
                ? strained(waggon, parts, w.bridges.get(bridge)) : no(-2);
    }

    private boolean bridgeHolds(int waggon, int parts, int[] b) {
        return axleLoad(waggon, parts) <= bearsAxle(b) && strained(waggon, parts, b) <= bearsAll(b);
    }

    private int need(int waggon, int parts, int[] b) {
        if (bridgeHolds(waggon, parts, b)) {
            return 0;
        }
        if (b[7] == 1 || b[1] == 3) {
            return 2;
        }
        int[] propped = b.clone();
        propped[7] = 1;
        return bridgeHolds(waggon, parts, propped) ? 1 : 2;
    }

    long needs(int waggon, int parts, int bridge) {
        return pack(waggon, parts) && in(bridge, 0, w.bridges.size() - 1)
                ? need(waggon, parts, w.bridges.get(bridge)) : no(-2);
    }

    private int[] propsOf(int waggon, int parts, int road) {
        int count = 0;
        int coin = 0;
        for (int[] b : w.bridges) {
            if (b[0] == road) {
                int need = need(waggon, parts, b);
                if (need == 2) {
                    return null;
                }
                count += need;
                coin += need * b[6];
            }
        }
        return new int[] {count, coin};
    }

    private boolean passes(int waggon, int parts, int road) {
        int[] r = w.roads.get(road);
        return r[6] == 0 && r[4] >= len(waggon) && propsOf(waggon, parts, road) != null;
    }

    private int enginesOf(int waggon, int parts, int road) {
        return 1 + w.roads.get(road)[3] * axleLoad(waggon, parts) / 100;
    }

    private int coinOf(int waggon, int parts, int road, int n) {
        return n * w.mile * w.roads.get(road)[2] * enginesOf(waggon, parts, road) + propsOf(waggon, parts, road)[1];
    }

    private int daysOf(int waggon, int parts, int road) {
        return (int) Math.ceil(w.roads.get(road)[2] / 10.0) + 3 * propsOf(waggon, parts, road)[0];
    }

    long goes(int waggon, int parts, int road, int what) {
        if (!pack(waggon, parts) || !in(road, 0, w.roads.size() - 1) || !in(what, 0, 4)) {
            return no(-2);
        }
        boolean go = passes(waggon, parts, road);
        if (what == 0) {
            return go ? 1 : 0;
        }
        if (what == 3) {
            return enginesOf(waggon, parts, road);
        }
        if (!go) {
            return no(-5);
        }
        return what == 1 ? coinOf(waggon, parts, road, 1) : what == 2 ? daysOf(waggon, parts, road)
                : propsOf(waggon, parts, road)[0];
    }

    // ---- ways

    /** The least sums between all places; n 0: of days. */
    private long[][] between(int waggon, int parts, int n) {
        long[][] d = new long[16][16];
        for (int a = 0; a < 16; a++) {
            Arrays.fill(d[a], FAR);
            d[a][a] = 0;
        }
        for (int r = 0; r < w.roads.size(); r++) {
            if (passes(waggon, parts, r)) {
                int a = w.roads.get(r)[0];
                int b = w.roads.get(r)[1];
                long sum = n == 0 ? daysOf(waggon, parts, r) : coinOf(waggon, parts, r, n);
                d[a][b] = Math.min(d[a][b], sum);
                d[b][a] = Math.min(d[b][a], sum);
            }
        }
        for (int k = 0; k < 16; k++) {
            for (int a = 0; a < 16; a++) {
                for (int b = 0; b < 16; b++) {
                    d[a][b] = Math.min(d[a][b], d[a][k] + d[k][b]);
                }
            }
        }
        return d;
    }

    private long coin(int waggon, int parts, int from, int to, int n) {
        long d = between(waggon, parts, n)[from][to];
        return d >= FAR ? FAR : d + (long) n * partsSum(parts, 1);
    }

    private long orStuck(long v) {
        return v >= FAR ? no(-5) : v;
    }

    private boolean journey(int waggon, int parts, int from, int to) {
        return pack(waggon, parts) && place(from) && place(to);
    }

    long cheapest(int waggon, int parts, int from, int to) {
        return journey(waggon, parts, from, to) ? orStuck(coin(waggon, parts, from, to, 1)) : no(-2);
    }

    long soonest(int waggon, int parts, int from, int to) {
        return journey(waggon, parts, from, to) ? orStuck(between(waggon, parts, 0)[from][to]) : no(-2);
    }

    long again(int waggon, int parts, int from, int to, int n) {
        return journey(waggon, parts, from, to) && in(n, 1, 20) ? orStuck(coin(waggon, parts, from, to, n)) : no(-2);
    }

    long best(int from, int to, int what) {
        if (!place(from) || !place(to) || !in(what, 0, 2)) {
            return no(-2);
        }
        long[] best = {0, 0, FAR};
        for (int v = 0; v < w.waggons.size(); v++) {
            for (int set = 0; set < 1 << w.parts.size(); set++) {
                long c = coin(v, set, from, to, 1);
                if (c < best[2]) {
                    best = new long[] {v, set, c};
                }
            }
        }
        return best[2] >= FAR ? no(-5) : best[what];
    }

    private long toldRefusal(int waggon, int parts, int from, int s, int n) {
        if (!pack(waggon, parts) || !place(from) || !in(s, 0, 7) || !in(n, 0, 20)) {
            return -2;
        }
        if (shelves[s] instanceof Integer) {
            return -3;
        }
        if (shelves[s] == null) {
            return -4;
        }
        return ((long[]) shelves[s]).length < n ? -2 : 0;
    }

    /** {first wrong or -1, coin, days, parishes, place}. */
    private long[] walk(int waggon, int parts, int from, int s, int n) {
        long[] out = {-1, 0, 0, 0, from};
        java.util.Set<Integer> parishes = new java.util.HashSet<>();
        for (int i = 0; i < n; i++) {
            long v = ((long[]) shelves[s])[i];
            if (!in(v, 0, w.roads.size() - 1) || !passes(waggon, parts, (int) v)
                    || w.roads.get((int) v)[0] != out[4] && w.roads.get((int) v)[1] != out[4]) {
                out[0] = i;
                return out;
            }
            int[] r = w.roads.get((int) v);
            out[1] += coinOf(waggon, parts, (int) v, 1);
            out[2] += daysOf(waggon, parts, (int) v);
            parishes.add(r[5]);
            out[3] = parishes.size();
            out[4] = r[0] + r[1] - out[4];
        }
        return out;
    }

    long judge(int waggon, int parts, int from, int s, int n) {
        long why = toldRefusal(waggon, parts, from, s, n);
        return why != 0 ? no((int) why) : walk(waggon, parts, from, s, n)[0];
    }

    long told(int waggon, int parts, int from, int s, int n, int what) {
        if (!in(what, 0, 3)) {
            return no(-2);
        }
        long why = toldRefusal(waggon, parts, from, s, n);
        if (why != 0) {
            return no((int) why);
        }
        long[] walk = walk(waggon, parts, from, s, n);
        return walk[0] != -1 ? no(-5) : walk[1 + what];
    }

    long reach(int waggon, int parts, int from) {
        if (!pack(waggon, parts) || !place(from)) {
            return no(-2);
        }
        long bits = 0;
        for (int p = 0; p < 16; p++) {
            bits |= between(waggon, parts, 1)[from][p] >= FAR ? 0 : 1L << p;
        }
        return bits;
    }

    long hang(int waggon, int parts, int from, int to) {
        if (!journey(waggon, parts, from, to)) {
            return no(-2);
        }
        if (w.bridges.isEmpty() || coin(waggon, parts, from, to, 1) >= FAR) {
            return no(-5);
        }
        World true1 = w;
        long greatest = -1;
        int found = -1;
        for (int b = 0; b < true1.bridges.size(); b++) {
            w = true1.copy();
            w.bridges.get(b)[8] = 1;
            long c = coin(waggon, parts, from, to, 1);
            if (c > greatest) {
                greatest = c;
                found = b;
            }
        }
        w = true1;
        return found;
    }

    long fewest(int waggon, int from, int to) {
        if (!in(waggon, 0, w.waggons.size() - 1) || !place(from) || !place(to)) {
            return no(-2);
        }
        for (int count = 0; count <= w.parts.size(); count++) {
            for (int set = 0; set < 1 << w.parts.size(); set++) {
                if (Integer.bitCount(set) == count && coin(waggon, set, from, to, 1) < FAR) {
                    return set;
                }
            }
        }
        return no(-5);
    }

    long most(int waggon, int from, int to) {
        if (!in(waggon, 0, w.waggons.size() - 1) || !place(from) || !place(to)) {
            return no(-2);
        }
        int was = w.weight;
        long answer = -1;
        for (int weight = 900; weight >= 0 && answer < 0; weight--) {
            w.weight = weight;
            answer = coin(waggon, 0, from, to, 1) < FAR ? weight : -1;
        }
        w.weight = was;
        return answer < 0 ? no(-5) : answer;
    }

    long frost(int waggon, int parts, int from, int to, int d, int chance, int coin) {
        if (!journey(waggon, parts, from, to) || !in(d, 0, 6) || !in(chance, 0, 10) || !in(coin, 0, 999)) {
            return no(-2);
        }
        int was = w.frost;
        w.frost = 0;
        long bare = coin(waggon, parts, from, to, 1);
        w.frost = 1;
        long frozen = coin(waggon, parts, from, to, 1);
        w.frost = was;
        return bare >= FAR ? no(-5) : value(bare, frozen, d, chance, coin);
    }

    private static long value(long bare, long frozen, int d, int chance, int coin) {
        if (d == 0) {
            return bare;
        }
        long power = 1;
        for (int k = 0; k < d; k++) {
            power *= 10;
        }
        long wait = coin * power + chance * (power / 10 * frozen) + (10 - chance) * value(bare, frozen, d - 1, chance, coin);
        return Math.min(power * bare, wait);
    }

    // ---- on its way

    long begin(int waggon, int parts, int from, int to) {
        if (!journey(waggon, parts, from, to)) {
            return no(-2);
        }
        w.trip = new int[] {from, to, partsSum(parts, 1), 0, 0, waggon, parts};
        return 1;
    }

    long step() {
        int[] t = w.trip;
        if (t == null || t[0] == t[1]) {
            return no(-5);
        }
        long[][] d = between(t[5], t[6], 1);
        for (int r = 0; r < w.roads.size(); r++) {
            int[] road = w.roads.get(r);
            if ((road[0] == t[0] || road[1] == t[0]) && passes(t[5], t[6], r)) {
                int next = road[0] + road[1] - t[0];
                if (d[next][t[1]] < FAR && d[next][t[1]] + coinOf(t[5], t[6], r, 1) == d[t[0]][t[1]]) {
                    t[0] = next;
                    t[2] += coinOf(t[5], t[6], r, 1);
                    t[3] += daysOf(t[5], t[6], r);
                    t[4]++;
                    for (int[] b : w.bridges) {
                        if (b[0] == r && need(t[5], t[6], b) == 1) {
                            b[7] = 1;
                        }
                    }
                    return r;
                }
            }
        }
        return no(-5);
    }

    long under(int what) {
        if (!in(what, 0, 4)) {
            return no(-2);
        }
        return w.trip == null ? no(-5) : w.trip[what];
    }

    long image() {
        kept = w.copy();
        return 1;
    }

    long back() {
        if (kept == null) {
            return no(-5);
        }
        w = kept.copy();
        for (int s = 0; s < 8; s++) {
            if (shelves[s] instanceof Integer b && b >= w.bridges.size()) {
                shelves[s] = null;
            }
        }
        return 1;
    }

    long status(int what) {
        if (in(what, 12, 16)) {
            return refused[what - 12];
        }
        switch (what) {
            case 0: return w.roads.size();
            case 1: return w.bridges.size();
            case 2: return w.waggons.size();
            case 3: return w.parts.size();
            case 4: return tape.length();
            case 5: return Arrays.stream(shelves).filter(o -> o != null).count();
            case 6: return w.bridges.stream().filter(b -> b[7] == 1).count();
            case 7: return w.bridges.stream().filter(b -> b[8] == 1).count();
            default: return -1;
        }
    }
}
