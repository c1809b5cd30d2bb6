/**
 * REFUSALS: "the first that fits as each line has them". Each call here has two or more that fit, or one that is no
 * matter of ranges (RangesTest has those); and none changes anything but how many there were.
 */
public final class RefusalsTest {
    private static final Check CHECK = new Check("RefusalsTest");
    private static final Twins SOME = new Twins(CHECK, Lands::some);
    private static final Twins FULL_LAND = new Twins(CHECK, Lands::full);
    private static final Twins NEW = new Twins(CHECK, OneHeavyLoad::new);

    private static final int BAD = -2;
    private static final int OTHER = -3;
    private static final int NOTHING = -4;
    private static final int STUCK = -5;
    private static final int FULL = -6;

    // What the shelves of Lands.some() hold.
    private static final int INTS = 0;
    private static final int LONGS = 1;
    private static final int FORD = 2;
    private static final int BRIDGE = 3;
    private static final int IRON = 4;
    private static final int EMPTY = 6;
    private static final int INTS_TOO = 7;
    private static final int NO_SHELF = 8;

    private static final int APART = 9;

    public static void main(String[] args) {
        set();
        copyOther();
        copyInOrder();
        says();
        nothingOfThatNumber();
        full();
        stand();
        goes();
        noWay();
        noBridges();
        judge();
        told();
        journey();
        neverRefused();
        CHECK.end();
    }

    private static void set() {
        SOME.refused("3: OTHER", OTHER, x -> x.set(FORD, 0, 1));
        SOME.refused("3: OTHER before BAD i", OTHER, x -> x.set(FORD, -1, 1));
        SOME.refused("3: NOTHING", NOTHING, x -> x.set(EMPTY, 0, 1));
        SOME.refused("3: NOTHING before BAD i", NOTHING, x -> x.set(EMPTY, 40, 1));
        SOME.refused("3: BAD i, one behind the last", BAD, x -> x.set(INTS, 5, 1));
        SOME.refused("3: BAD i, a longer row's", BAD, x -> x.set(LONGS, 3, 1));
        SOME.refused("3: BAD SHELF, and BAD i", BAD, x -> x.set(NO_SHELF, -1, 1));
    }

    private static void copyOther() {
        SOME.refused("4: OTHER p", OTHER, x -> x.copy(FORD, INTS, 0, 0, 1));
        SOME.refused("4: OTHER q", OTHER, x -> x.copy(INTS, FORD, 0, 0, 1));
        SOME.refused("4: OTHER both", OTHER, x -> x.copy(FORD, BRIDGE, 0, 0, 1));
        SOME.refused("4: OTHER, the same", OTHER, x -> x.copy(FORD, FORD, 0, 0, 0));
        SOME.refused("4: OTHER, ROWS of two SORTS", OTHER, x -> x.copy(INTS, LONGS, 0, 0, 1));
        SOME.refused("4: OTHER, ROWS of two SORTS", OTHER, x -> x.copy(LONGS, INTS, 0, 0, 1));
        SOME.refused("4: OTHER, ROWS of two SORTS, none of them", OTHER, x -> x.copy(LONGS, INTS, 0, 0, 0));
        SOME.refused("4: ROWS of two SORTS only if both hold something", NOTHING, x -> x.copy(LONGS, EMPTY, 0, 0, 1));
        SOME.refused("4: ROWS of two SORTS only if both hold something", NOTHING, x -> x.copy(EMPTY, LONGS, 0, 0, 1));
    }

    private static void copyInOrder() {
        SOME.refused("4: BAD p before OTHER q", BAD, x -> x.copy(NO_SHELF, FORD, 0, 0, 1));
        SOME.refused("4: BAD q before OTHER p", BAD, x -> x.copy(FORD, -1, 0, 0, 1));
        SOME.refused("4: BAD p before NOTHING q", BAD, x -> x.copy(-1, EMPTY, 0, 0, 1));
        SOME.refused("4: BAD q before NOTHING p", BAD, x -> x.copy(EMPTY, NO_SHELF, 0, 0, 1));
        SOME.refused("4: OTHER p before NOTHING q", OTHER, x -> x.copy(FORD, EMPTY, 0, 0, 1));
        SOME.refused("4: OTHER q before NOTHING p", OTHER, x -> x.copy(EMPTY, FORD, 0, 0, 1));
        SOME.refused("4: OTHER before BAD i", OTHER, x -> x.copy(FORD, INTS, -1, 0, 1));
        SOME.refused("4: OTHER before BAD j", OTHER, x -> x.copy(INTS, FORD, 0, 41, 1));
        SOME.refused("4: two SORTS before BAD n", OTHER, x -> x.copy(INTS, LONGS, 0, 0, -1));
        SOME.refused("4: two SORTS before BAD n", OTHER, x -> x.copy(INTS, LONGS, 0, 0, 4));
        SOME.refused("4: NOTHING p before BAD i", NOTHING, x -> x.copy(EMPTY, INTS, -1, 0, 1));
        SOME.refused("4: NOTHING q before BAD j", NOTHING, x -> x.copy(INTS, EMPTY, 0, -1, 1));
        SOME.refused("4: NOTHING before BAD n", NOTHING, x -> x.copy(INTS, EMPTY, 0, 0, 41));
        SOME.refused("4: NOTHING both", NOTHING, x -> x.copy(EMPTY, EMPTY, 0, 0, 0));
        SOME.refused("4: BAD n, more than p has", BAD, x -> x.copy(LONGS, LONGS, 1, 0, 3));
        SOME.refused("4: BAD n, more than q has", BAD, x -> x.copy(LONGS, LONGS, 0, 1, 3));
        SOME.refused("4: BAD i and n, whose sum wraps round", BAD, x -> x.copy(INTS, INTS_TOO, Integer.MAX_VALUE, 0, 1));
        SOME.refused("4: BAD j and n, whose sum wraps round", BAD, x -> x.copy(INTS, INTS_TOO, 0, Integer.MAX_VALUE, 1));
        SOME.refused("4: BAD n, whose sum with i wraps round", BAD, x -> x.copy(INTS, INTS_TOO, 1, 1, Integer.MAX_VALUE));
        SOME.refused("4: BAD, i less n wraps round", BAD, x -> x.copy(INTS, INTS_TOO, 2, 2, Integer.MIN_VALUE));
    }

    private static void says() {
        SOME.refused("8: OTHER, a ROW", OTHER, x -> x.says(INTS, 0));
        SOME.refused("8: NOTHING", NOTHING, x -> x.says(EMPTY, 0));
        SOME.refused("8: BAD KIND before OTHER", BAD, x -> x.says(INTS, 6));
        SOME.refused("8: BAD KIND before NOTHING", BAD, x -> x.says(EMPTY, -1));
        SOME.refused("8: OTHER, of no such KIND nor under it", OTHER, x -> x.says(FORD, 1));
        SOME.refused("8: OTHER, it is over that KIND", OTHER, x -> x.says(BRIDGE, 3));
        SOME.refused("8: OTHER, beside that KIND", OTHER, x -> x.says(IRON, 4));
    }

    /** "nothing of that number": on a new object no number is one of anything. */
    private static void nothingOfThatNumber() {
        NEW.refused("7: no BRIDGE", BAD, x -> x.show(0, 0));
        NEW.refused("10: no ROAD", BAD, x -> x.bridge(0, 0, 0, 1, 1));
        NEW.refused("11: no BRIDGE", BAD, x -> x.prop(0, 0, 0));
        NEW.refused("15: no BRIDGE", BAD, x -> x.stand(0, 0, false));
        NEW.refused("16: no ROAD", BAD, x -> x.shut(0, false));
        NEW.refused("20: no ROAD", BAD, x -> x.roadOf(0, 0));
        NEW.refused("21: no BRIDGE", BAD, x -> x.bridgeOf(0, 0));
        NEW.refused("22: no BRIDGE", BAD, x -> x.bears(0, false));
        NEW.refused("23: no WAGGON", BAD, x -> x.length(0));
        NEW.refused("24: no WAGGON", BAD, x -> x.axle(0, 0));
        NEW.refused("25: no WAGGON", BAD, x -> x.strain(0, 0, 0));
        NEW.refused("26: no WAGGON", BAD, x -> x.needs(0, 0, 0));
        NEW.refused("27: no WAGGON", BAD, x -> x.goes(0, 0, 0, 0));
        NEW.refused("28: no WAGGON, though the PLACES are one", BAD, x -> x.cheapest(0, 0, 3, 3));
        NEW.refused("29: no WAGGON", BAD, x -> x.soonest(0, 0, 3, 3));
        NEW.refused("30: no WAGGON", BAD, x -> x.again(0, 0, 3, 3, 1));
        NEW.refused("31: no PACK has a WAY", STUCK, x -> x.best(3, 3, 0));
        NEW.refused("32: no WAGGON before NOTHING", BAD, x -> x.judge(0, 0, 0, 0, 0));
        NEW.refused("33: no WAGGON before NOTHING", BAD, x -> x.told(0, 0, 0, 0, 0, 0));
        NEW.refused("34: no WAGGON", BAD, x -> x.reach(0, 0, 0));
        NEW.refused("35: no WAGGON before no BRIDGES", BAD, x -> x.hang(0, 0, 0, 0));
        NEW.refused("36: no WAGGON", BAD, x -> x.fewest(0, 0, 0));
        NEW.refused("37: no WAGGON", BAD, x -> x.most(0, 0, 0));
        NEW.refused("38: no WAGGON", BAD, x -> x.frost(0, 0, 0, 0, 0, 0, 0));
        NEW.refused("39: no WAGGON", BAD, x -> x.begin(0, 0, 0, 0));
        for (int bit = 3; bit < 32; bit++) {
            int parts = 1 << bit;
            SOME.refused("24: a bit of no PART", BAD, x -> x.axle(0, parts));
            SOME.refused("28: a bit of no PART, and others", BAD, x -> x.cheapest(0, parts | 7, 0, 2));
        }
    }

    private static void full() {
        FULL_LAND.refused("9: FULL", FULL, x -> x.road(1, 2, 10, 1, 50, 3));
        FULL_LAND.refused("10: FULL", FULL, x -> x.bridge(23, 5, 60, 99, 999));
        FULL_LAND.refused("12: FULL", FULL, x -> x.waggon(12, 9, 99));
        FULL_LAND.refused("13: FULL", FULL, x -> x.part(99, 99));
        int[][] roads = {{16, 2, 10, 1, 50, 3}, {1, -1, 10, 1, 50, 3}, {2, 2, 10, 1, 50, 3}, {1, 2, 61, 1, 50, 3},
            {1, 2, 10, 10, 50, 3}, {1, 2, 10, 1, 100, 3}, {1, 2, 10, 1, 50, 16}};
        for (int[] a : roads) {
            FULL_LAND.refused("9: BAD before FULL", BAD, x -> x.road(a[0], a[1], a[2], a[3], a[4], a[5]));
        }
        int[][] bridges = {{24, 0, 0, 1, 1}, {0, 6, 0, 1, 1}, {0, 0, 61, 1, 1}, {0, 0, 0, 0, 1}, {0, 0, 0, 1, 1000}};
        for (int[] a : bridges) {
            FULL_LAND.refused("10: BAD before FULL", BAD, x -> x.bridge(a[0], a[1], a[2], a[3], a[4]));
        }
        int[][] waggons = {{13, 1, 0}, {2, 10, 0}, {2, 1, 100}};
        for (int[] a : waggons) {
            FULL_LAND.refused("12: BAD before FULL", BAD, x -> x.waggon(a[0], a[1], a[2]));
        }
        FULL_LAND.refused("13: BAD before FULL", BAD, x -> x.part(0, 1));
        FULL_LAND.refused("13: BAD before FULL", BAD, x -> x.part(1, 100));
        for (int n = 1; n <= 4; n++) {
            int bytes = n;
            FULL_LAND.refused("17: FULL", FULL, x -> x.feed(0x61626364, bytes));
        }
        FULL_LAND.refused("17: BAD before FULL", BAD, x -> x.feed(0x61626364, 5));
        FULL_LAND.refused("17: BAD before FULL", BAD, x -> x.feed(0x61626364, 0));
    }

    private static void stand() {
        SOME.refused("15: IRON can't be PROPPED", STUCK, x -> x.stand(3, 0, true));
        SOME.refused("15: BAD what before STUCK", BAD, x -> x.stand(3, 3, true));
        SOME.refused("15: BAD what before STUCK", BAD, x -> x.stand(3, -1, true));
        SOME.onlyTold("15: IRON that is not PROPPED was so", 0, x -> x.stand(3, 0, false));
        SOME.taken("15: IRON may be FALLEN", 1, x -> x.stand(3, 1, true));
        SOME.taken("15: IRON may be ASKED about", 1, x -> x.stand(3, 2, true));
        for (int kind : new int[] {0, 2, 4, 5}) {
            SOME.taken("15: another KIND may be PROPPED", 1, x -> x.stand(kind, 0, true));
        }
    }

    private static void goes() {
        for (int what : new int[] {1, 2, 4}) {
            SOME.refused("27: STUCK, shut", STUCK, x -> x.goes(0, 0, 3, what));
        }
        SOME.onlyTold("27: 0 of a ROAD that doesn't GO", 0, x -> x.goes(0, 0, 3, 0));
        SOME.onlyTold("27: ENGINES of a ROAD that doesn't GO", 2, x -> x.goes(0, 0, 3, 3));
        SOME.refused("27: BAD what before STUCK", BAD, x -> x.goes(0, 0, 3, 5));
        SOME.refused("27: BAD PACK before STUCK", BAD, x -> x.goes(0, 8, 3, 1));
    }

    private static void noWay() {
        SOME.refused("28: STUCK", STUCK, x -> x.cheapest(0, 0, 0, APART));
        SOME.refused("28: STUCK, back", STUCK, x -> x.cheapest(0, 0, APART, 0));
        SOME.refused("28: BAD before STUCK", BAD, x -> x.cheapest(0, 8, 0, APART));
        SOME.refused("29: STUCK", STUCK, x -> x.soonest(0, 0, 0, APART));
        SOME.refused("29: BAD before STUCK", BAD, x -> x.soonest(2, 0, 0, APART));
        SOME.refused("30: STUCK", STUCK, x -> x.again(0, 0, 0, APART, 1));
        SOME.refused("30: BAD before STUCK", BAD, x -> x.again(0, 0, 0, APART, 21));
        for (int what = 0; what <= 2; what++) {
            int asked = what;
            SOME.refused("31: STUCK", STUCK, x -> x.best(0, APART, asked));
        }
        SOME.refused("31: BAD before STUCK", BAD, x -> x.best(0, APART, 3));
        SOME.refused("35: STUCK, no WAY now", STUCK, x -> x.hang(0, 0, 0, APART));
        SOME.refused("35: BAD before STUCK", BAD, x -> x.hang(0, -1, 0, APART));
        SOME.refused("36: STUCK", STUCK, x -> x.fewest(0, 0, APART));
        SOME.refused("36: BAD before STUCK", BAD, x -> x.fewest(2, 0, APART));
        SOME.refused("37: STUCK", STUCK, x -> x.most(0, 0, APART));
        SOME.refused("37: BAD before STUCK", BAD, x -> x.most(-1, 0, APART));
        SOME.refused("38: STUCK", STUCK, x -> x.frost(0, 0, 0, APART, 0, 0, 0));
        SOME.refused("38: BAD d before STUCK", BAD, x -> x.frost(0, 0, 0, APART, 7, 0, 0));
        SOME.refused("38: BAD chance before STUCK", BAD, x -> x.frost(0, 0, 0, APART, 0, 11, 0));
        SOME.refused("38: BAD coin before STUCK", BAD, x -> x.frost(0, 0, 0, APART, 0, 0, 1000));
    }

    private static OneHeavyLoad noBridgesLand() {
        OneHeavyLoad x = new OneHeavyLoad();
        x.waggon(2, 1, 0);
        x.road(0, 1, 1, 0, 99, 0);
        return x;
    }

    private static void noBridges() {
        Twins bare = new Twins(CHECK, RefusalsTest::noBridgesLand);
        bare.refused("35: no BRIDGES, though there is a WAY", STUCK, x -> x.hang(0, 0, 0, 1));
        bare.refused("35: no BRIDGES, one PLACE", STUCK, x -> x.hang(0, 0, 4, 4));
        bare.refused("35: BAD before no BRIDGES", BAD, x -> x.hang(0, 0, 0, 16));
    }

    private static void judge() {
        SOME.refused("32: BAD waggon before OTHER", BAD, x -> x.judge(2, 0, 0, FORD, 1));
        SOME.refused("32: BAD parts before NOTHING", BAD, x -> x.judge(0, 8, 0, EMPTY, 1));
        SOME.refused("32: BAD PLACE before OTHER", BAD, x -> x.judge(0, 0, 16, FORD, 1));
        SOME.refused("32: BAD SHELF", BAD, x -> x.judge(0, 0, 0, NO_SHELF, 1));
        SOME.refused("32: BAD n before OTHER", BAD, x -> x.judge(0, 0, 0, FORD, 21));
        SOME.refused("32: BAD n before NOTHING", BAD, x -> x.judge(0, 0, 0, EMPTY, -1));
        SOME.refused("32: OTHER", OTHER, x -> x.judge(0, 0, 0, FORD, 1));
        SOME.refused("32: OTHER, none told", OTHER, x -> x.judge(0, 0, 0, FORD, 0));
        SOME.refused("32: NOTHING", NOTHING, x -> x.judge(0, 0, 0, EMPTY, 1));
        SOME.refused("32: NOTHING, none told", NOTHING, x -> x.judge(0, 0, 0, EMPTY, 0));
        SOME.refused("32: BAD, fewer elements", BAD, x -> x.judge(0, 0, 0, INTS, 6));
        SOME.refused("32: BAD, fewer elements", BAD, x -> x.judge(0, 0, 0, LONGS, 4));
        SOME.onlyTold("32: just as many elements", 0, x -> x.judge(0, 0, 0, INTS, 5));
    }

    private static void told() {
        SOME.refused("33: BAD waggon before OTHER", BAD, x -> x.told(2, 0, 0, FORD, 1, 0));
        SOME.refused("33: BAD PLACE before NOTHING", BAD, x -> x.told(0, 0, -1, EMPTY, 1, 0));
        SOME.refused("33: BAD n before OTHER", BAD, x -> x.told(0, 0, 0, FORD, 21, 0));
        SOME.refused("33: BAD what before OTHER", BAD, x -> x.told(0, 0, 0, FORD, 1, 4));
        SOME.refused("33: BAD what before NOTHING", BAD, x -> x.told(0, 0, 0, EMPTY, 1, -1));
        SOME.refused("33: OTHER before STUCK", OTHER, x -> x.told(0, 0, APART, FORD, 1, 0));
        SOME.refused("33: NOTHING before STUCK", NOTHING, x -> x.told(0, 0, APART, EMPTY, 1, 0));
        SOME.refused("33: BAD, fewer elements, before STUCK", BAD, x -> x.told(0, 0, APART, INTS, 6, 0));
        SOME.refused("33: BAD what before STUCK", BAD, x -> x.told(0, 0, APART, INTS, 1, 4));
        for (int what = 0; what <= 3; what++) {
            int asked = what;
            SOME.refused("33: STUCK", STUCK, x -> x.told(0, 0, APART, INTS, 1, asked));
        }
        SOME.onlyTold("33: the PLACE at the end of none", APART, x -> x.told(0, 0, APART, INTS, 0, 3));
    }

    private static void journey() {
        NEW.refused("40: none is on its way", STUCK, x -> x.step());
        for (int what = 0; what <= 4; what++) {
            int asked = what;
            NEW.refused("41: none is on its way", STUCK, x -> x.under(asked));
        }
        NEW.refused("41: BAD before STUCK", BAD, x -> x.under(5));
        NEW.refused("41: BAD before STUCK", BAD, x -> x.under(-1));
        NEW.refused("43: nothing was kept", STUCK, x -> x.back());
        new Twins(CHECK, () -> onItsWay(4, 4)).refused("40: it is there", STUCK, x -> x.step());
        new Twins(CHECK, () -> onItsWay(0, APART)).refused("40: there is no WAY", STUCK, x -> x.step());
        SOME.refused("39: BAD, and the other one isn't given up", BAD, x -> x.begin(0, 8, 0, 2));
    }

    private static OneHeavyLoad onItsWay(int from, int to) {
        OneHeavyLoad x = Lands.some();
        x.begin(0, 1, from, to);
        return x;
    }

    /** element, holds, status: what there is none of is told by 0 or NONE, and not counted. */
    private static void neverRefused() {
        int[] ends = {Integer.MIN_VALUE, -1, 8, 17, 40, Integer.MAX_VALUE};
        for (int v : ends) {
            SOME.onlyTold("5: no SHELF", 0, x -> x.element(v, 0));
            SOME.onlyTold("5: no such element", 0, x -> x.element(INTS, v));
            SOME.onlyTold("5: of no ROW", 0, x -> x.element(EMPTY, v));
            SOME.onlyTold("6: no SHELF", -1, x -> x.holds(v));
            SOME.onlyTold("44: another what", -1, x -> x.status(v));
        }
        SOME.onlyTold("5: of a BRIDGE", 0, x -> x.element(FORD, 0));
        SOME.onlyTold("5: one behind the last", 0, x -> x.element(LONGS, 3));
        SOME.onlyTold("5: the last of a row of 40", 1, x -> x.element(5, 39));
    }
}
