/** One heavy load, brought by roads with bridges; the numbered promises of the document say what each call answers. */
public final class OneHeavyLoad {
    public static final int NONE = -1;

    private static final int BAD = -2;
    private static final int OTHER = -3;
    private static final int NOTHING = -4;
    private static final int STUCK = -5;
    private static final int FULL = -6;
    private static final int REFUSAL_SORTS = 5;
    private static final int FAULT_BASE = -20;

    private static final int PLACES = 16;
    private static final int MAX_MILES = 60;
    private static final int MAX_RISE = 9;
    private static final int MAX_TURN = 99;
    private static final int MAX_PARISH = 15;
    private static final int MAX_KIND = 5;
    private static final int MAX_SPAN = 60;
    private static final int MAX_AXLE = 99;
    private static final int MAX_ALL = 999;
    private static final int MAX_PROP = 999;
    private static final int MIN_AXLES = 2;
    private static final int MAX_AXLES = 12;
    private static final int MAX_SPACE = 9;
    private static final int MAX_TARE = 99;
    private static final int MAX_WEIGHT = 900;
    private static final int MAX_PART_WEIGHT = 99;
    private static final int MAX_PART_COIN = 99;
    private static final int MAX_MILE = 99;
    private static final int MAX_LOADS = 20;
    private static final int MAX_TOLD = 20;
    private static final int MAX_DAYS = 6;
    private static final int TENTHS = 10;
    private static final int MAX_WAITING = 999;

    // What there is a count of, numbered as status() has it.
    private static final int ROADS = 0;
    private static final int BRIDGES = 1;
    private static final int WAGGONS = 2;
    private static final int PARTS = 3;
    private static final int[] ROOM = {24, 16, 5, 5};
    // What else status() tells, by its numbers.
    private static final int STATUS_TAPE = 4;
    private static final int STATUS_SHELVES = 5;
    private static final int STATUS_PROPPED = 6;
    private static final int STATUS_FALLEN = 7;
    private static final int FIRST_REFUSAL_WHAT = 12;

    // Columns of a road, numbered as roadOf() has them.
    private static final int FROM = 0;
    private static final int TO = 1;
    private static final int MILES = 2;
    private static final int RISE = 3;
    private static final int TURN = 4;
    private static final int PARISH = 5;
    private static final int SHUT = 6;
    private static final int ROAD_WIDTH = 7;

    // Columns of a bridge, numbered as bridgeOf() has them.
    private static final int ROAD = 0;
    private static final int KIND = 1;
    private static final int SPAN = 2;
    private static final int AXLE = 3;
    private static final int ALL = 4;
    private static final int MORE = 5;
    private static final int COIN = 6;
    private static final int PROPPED = 7;
    private static final int FALLEN = 8;
    private static final int ASKED = 9;
    private static final int BRIDGE_WIDTH = 10;

    private static final int KIND_BRIDGE = 0;
    private static final int KIND_STONE = 1;
    private static final int KIND_ARCHES = 2;
    private static final int KIND_IRON = 3;
    private static final int KIND_UNKNOWN = 4;
    private static final int KIND_FORD = 5;
    // Each kind's own parents as bits, itself among them: what a bridge of it may be taken for.
    private static final int[] TAKEN_FOR = {1, 1 | 2, 1 | 2 | 4, 1 | 8, 1 | 16, 1 | 16 | 32};
    private static final int ARCHES_MORE = 5;

    private static final int AXLES = 0;
    private static final int SPACE = 1;
    private static final int TARE = 2;
    private static final int WAGGON_WIDTH = 3;

    private static final int PART_WEIGHT = 0;
    private static final int PART_COIN = 1;
    private static final int PART_WIDTH = 2;

    // What is set, numbered as ask() has it.
    private static final int WEIGHT = 0;
    private static final int MILE = 1;
    private static final int FROST = 2;
    private static final int SETTINGS = 3;
    private static final int[] MAX_SETTING = {MAX_WEIGHT, MAX_MILE, 1};

    // The load on its way: the first five are numbered as under() has them.
    private static final int TRIP_PLACE = 0;
    private static final int TRIP_GOAL = 1;
    private static final int TRIP_COIN = 2;
    private static final int TRIP_DAYS = 3;
    private static final int TRIP_ROADS = 4;
    private static final int TRIP_TOLD = 5;
    private static final int TRIP_WAGGON = 5;
    private static final int TRIP_SENT = 6;
    private static final int TRIP_WIDTH = 7;

    // What a walk adds up, numbered as told() has it.
    private static final int WALK_COIN = 0;
    private static final int WALK_DAYS = 1;
    private static final int WALK_PARISHES = 2;
    private static final int WALK_PLACE = 3;
    private static final int WALK_WIDTH = 4;

    // What goes() tells of a road, by its numbers.
    private static final int IF_IT_GOES = 0;
    private static final int ROAD_COIN = 1;
    private static final int ROAD_DAYS = 2;
    private static final int ROAD_ENGINES = 3;
    private static final int ROAD_PROPS = 4;

    // What best() answers, by its numbers.
    private static final int BEST_WAGGON = 0;
    private static final int BEST_SENT = 1;
    private static final int BEST_COIN = 2;
    private static final int BEST_WIDTH = 3;

    private static final int HOLDS = 0;
    private static final int NEEDS_PROP = 1;
    private static final int NEEDS_TOO_MUCH = 2;
    private static final int DAYS_A_PROP = 3;
    // Far above any sum of coin, so that a place without a way loses every comparison for the least.
    private static final int NO_WAY = 1000000000;

    private static final int SHELVES = 8;
    private static final int ROW_ROOM = 40;
    private static final int SORT_BYTES = 0;
    private static final int SORT_SHORTS = 1;
    private static final int SORT_INTS = 2;
    private static final int SORT_BOOLEANS = 4;
    private static final int FIRST_BRIDGE_HELD = 10;

    private static final int TAPE_ROOM = 250;
    private static final int MAX_FEED = 4;
    private static final int MAX_DIGITS = 3;
    private static final int TOKEN_END = 0;
    private static final int TOKEN_WORD = 1;
    private static final int TOKEN_NUMBER = 2;
    private static final int TOKEN_SIGN = 3;
    private static final int TOKEN_WRONG = 4;

    private final Land now;
    private final Land kept;
    private boolean isKept;
    private final Ways ways;
    private final Shelves shelves;
    private final Tape tape;
    private final Reader reader;
    private final int[] refusals;
    private final int[] bestPack;

    public OneHeavyLoad() {
        now = new Land();
        kept = new Land();
        isKept = false;
        ways = new Ways(now);
        shelves = new Shelves();
        tape = new Tape();
        reader = new Reader(tape, now);
        refusals = new int[REFUSAL_SORTS];
        bestPack = new int[BEST_WIDTH];
    }

    // ---- shelves

    public int row(int s, int sort, int n) {
        if (!isShelf(s) || !within(sort, 0, SORT_BOOLEANS) || !within(n, 0, ROW_ROOM)) {
            return refuse(BAD);
        }
        shelves.putRow(s, sort, n);
        return 1;
    }

    public int set(int s, int i, long v) {
        int why = whyNoRow(s);
        if (why != 0) {
            return refuse(why);
        }
        if (!within(i, 0, shelves.size[s] - 1)) {
            return refuse(BAD);
        }
        shelves.putElement(s, i, v);
        return 1;
    }

    public int copy(int p, int q, int i, int j, int n) {
        if (!isShelf(p) || !isShelf(q)) {
            return refuse(BAD);
        }
        if (shelves.holdsBridge(p) || shelves.holdsBridge(q) || shelves.holdsUnlikeRows(p, q)) {
            return refuse(OTHER);
        }
        if (shelves.holdsNothing(p) || shelves.holdsNothing(q)) {
            return refuse(NOTHING);
        }
        if (!within(n, 0, ROW_ROOM) || !within(i, 0, shelves.size[p] - n) || !within(j, 0, shelves.size[q] - n)) {
            return refuse(BAD);
        }
        shelves.copyElements(p, q, i, j, n);
        return n;
    }

    public long element(int s, int i) {
        if (!isShelf(s) || !shelves.holdsRow(s)) {
            return 0;
        }
        return shelves.elementAt(s, i);
    }

    public int holds(int s) {
        return isShelf(s) ? shelves.held[s] : NONE;
    }

    public int show(int s, int bridge) {
        if (!isShelf(s) || bridge != NONE && !isBridge(bridge)) {
            return refuse(BAD);
        }
        shelves.putBridge(s, bridge);
        return 1;
    }

    public int says(int s, int kind) {
        if (!isShelf(s) || !within(kind, 0, MAX_KIND)) {
            return refuse(BAD);
        }
        if (shelves.holdsRow(s)) {
            return refuse(OTHER);
        }
        int bridge = shelves.held[s] - FIRST_BRIDGE_HELD;
        if (!isBridge(bridge)) {
            return refuse(NOTHING);
        }
        if (!now.mayBeTakenFor(bridge, kind)) {
            return refuse(OTHER);
        }
        return spoken(bridge, kind);
    }

    // ---- the land

    public int road(int from, int to, int miles, int rise, int turn, int parish) {
        if (!isPlace(from) || !isPlace(to) || from == to || !within(miles, 1, MAX_MILES)
                || !within(rise, 0, MAX_RISE) || !within(turn, 1, MAX_TURN) || !within(parish, 0, MAX_PARISH)) {
            return refuse(BAD);
        }
        if (!now.hasRoom(ROADS)) {
            return refuse(FULL);
        }
        return now.addRoad(from, to, miles, rise, turn, parish);
    }

    public int bridge(int road, int kind, int span, int axle, int all) {
        if (!isRoad(road) || !within(kind, 0, MAX_KIND) || !within(span, 0, MAX_SPAN)
                || !within(axle, 1, MAX_AXLE) || !within(all, 1, MAX_ALL)) {
            return refuse(BAD);
        }
        if (!now.hasRoom(BRIDGES)) {
            return refuse(FULL);
        }
        return now.addBridge(road, kind, span, axle, all);
    }

    public int prop(int bridge, int more, int coin) {
        if (!isBridge(bridge) || !within(more, 0, MAX_PROP) || !within(coin, 0, MAX_PROP)) {
            return refuse(BAD);
        }
        now.putProp(bridge, more, coin);
        return 1;
    }

    public int waggon(int axles, int space, int tare) {
        if (!within(axles, MIN_AXLES, MAX_AXLES) || !within(space, 1, MAX_SPACE) || !within(tare, 0, MAX_TARE)) {
            return refuse(BAD);
        }
        if (!now.hasRoom(WAGGONS)) {
            return refuse(FULL);
        }
        return now.addWaggon(axles, space, tare);
    }

    public int part(int weight, int coin) {
        if (!within(weight, 1, MAX_PART_WEIGHT) || !within(coin, 0, MAX_PART_COIN)) {
            return refuse(BAD);
        }
        if (!now.hasRoom(PARTS)) {
            return refuse(FULL);
        }
        return now.addPart(weight, coin);
    }

    public int ask(int what, int v) {
        if (!within(what, 0, SETTINGS - 1) || !within(v, 0, MAX_SETTING[what])) {
            return refuse(BAD);
        }
        int was = now.settings[what];
        now.settings[what] = v;
        return was;
    }

    public int stand(int bridge, int what, boolean is) {
        if (!isBridge(bridge) || !within(what, 0, ASKED - PROPPED)) {
            return refuse(BAD);
        }
        int column = PROPPED + what;
        if (column == PROPPED && is && now.ofBridge(bridge, KIND) == KIND_IRON) {
            return refuse(STUCK);
        }
        int wanted = is ? 1 : 0;
        if (now.ofBridge(bridge, column) == wanted) {
            return 0;
        }
        now.putBridgeColumn(bridge, column, wanted);
        return 1;
    }

    public int shut(int road, boolean is) {
        if (!isRoad(road)) {
            return refuse(BAD);
        }
        int wanted = is ? 1 : 0;
        if (now.ofRoad(road, SHUT) == wanted) {
            return 0;
        }
        now.roads[road * ROAD_WIDTH + SHUT] = wanted;
        return 1;
    }

    // ---- the tape

    public int feed(int v, int n) {
        if (!within(n, 1, MAX_FEED)) {
            return refuse(BAD);
        }
        if (tape.size + n > TAPE_ROOM) {
            return refuse(FULL);
        }
        tape.append(v, n);
        return tape.size;
    }

    public int wipe() {
        int was = tape.size;
        tape.size = 0;
        return was;
    }

    public int land() {
        int statements = reader.read();
        tape.size = 0;
        if (tape.fault != NONE) {
            refuse(BAD);
            return FAULT_BASE - tape.fault;
        }
        return statements;
    }

    // ---- what is told of one thing

    public int roadOf(int road, int what) {
        if (!isRoad(road) || !within(what, 0, ROAD_WIDTH - 1)) {
            return refuse(BAD);
        }
        return now.ofRoad(road, what);
    }

    public int bridgeOf(int bridge, int what) {
        if (!isBridge(bridge) || !within(what, 0, BRIDGE_WIDTH - 1)) {
            return refuse(BAD);
        }
        return now.ofBridge(bridge, what);
    }

    public int bears(int bridge, boolean all) {
        if (!isBridge(bridge)) {
            return refuse(BAD);
        }
        return all ? now.bearsAll(bridge, now.isPropped(bridge)) : now.bearsAxle(bridge);
    }

    public int length(int waggon) {
        if (!isWaggon(waggon)) {
            return refuse(BAD);
        }
        return now.waggonLength(waggon);
    }

    public int axle(int waggon, int parts) {
        if (!isPack(waggon, parts)) {
            return refuse(BAD);
        }
        ways.pack.take(now, waggon, parts);
        return ways.pack.axleLoad;
    }

    public int strain(int waggon, int parts, int bridge) {
        if (!isPack(waggon, parts) || !isBridge(bridge)) {
            return refuse(BAD);
        }
        ways.pack.take(now, waggon, parts);
        return ways.pack.strainOn(now.ofBridge(bridge, SPAN));
    }

    public int needs(int waggon, int parts, int bridge) {
        if (!isPack(waggon, parts) || !isBridge(bridge)) {
            return refuse(BAD);
        }
        ways.pack.take(now, waggon, parts);
        return ways.pack.needsOf(now, bridge);
    }

    public int goes(int waggon, int parts, int road, int what) {
        if (!isPack(waggon, parts) || !isRoad(road) || !within(what, 0, ROAD_PROPS)) {
            return refuse(BAD);
        }
        ways.survey(waggon, parts);
        if (what == IF_IT_GOES) {
            return ways.props[road] == NONE ? 0 : 1;
        }
        if (what == ROAD_ENGINES) {
            return ways.engines(road);
        }
        if (ways.props[road] == NONE) {
            return refuse(STUCK);
        }
        if (what == ROAD_COIN) {
            return ways.coinOf(road, 1);
        }
        return what == ROAD_DAYS ? ways.daysOf(road) : ways.props[road];
    }

    // ---- ways

    public int cheapest(int waggon, int parts, int from, int to) {
        if (!isJourney(waggon, parts, from, to)) {
            return refuse(BAD);
        }
        return orStuck(ways.leastCoin(waggon, parts, from, to, 1));
    }

    public int soonest(int waggon, int parts, int from, int to) {
        if (!isJourney(waggon, parts, from, to)) {
            return refuse(BAD);
        }
        return orStuck(ways.leastDays(waggon, parts, from, to));
    }

    public int again(int waggon, int parts, int from, int to, int n) {
        if (!isJourney(waggon, parts, from, to) || !within(n, 1, MAX_LOADS)) {
            return refuse(BAD);
        }
        return orStuck(ways.leastCoin(waggon, parts, from, to, n));
    }

    public int best(int from, int to, int what) {
        if (!isPlace(from) || !isPlace(to) || !within(what, 0, BEST_WIDTH - 1)) {
            return refuse(BAD);
        }
        findBest(from, to);
        return bestPack[BEST_COIN] == NO_WAY ? refuse(STUCK) : bestPack[what];
    }

    public int judge(int waggon, int parts, int from, int s, int n) {
        int why = whyNotTold(waggon, parts, from, s, n);
        if (why != 0) {
            return refuse(why);
        }
        ways.survey(waggon, parts);
        return firstWrong(from, s, n);
    }

    public int told(int waggon, int parts, int from, int s, int n, int what) {
        int why = within(what, 0, WALK_WIDTH - 1) ? whyNotTold(waggon, parts, from, s, n) : BAD;
        if (why != 0) {
            return refuse(why);
        }
        ways.survey(waggon, parts);
        if (firstWrong(from, s, n) != NONE) {
            return refuse(STUCK);
        }
        return what == WALK_PARISHES ? Integer.bitCount(ways.walked[WALK_PARISHES]) : ways.walked[what];
    }

    public int reach(int waggon, int parts, int from) {
        if (!isPack(waggon, parts) || !isPlace(from)) {
            return refuse(BAD);
        }
        return ways.reached(waggon, parts, from);
    }

    public int hang(int waggon, int parts, int from, int to) {
        if (!isJourney(waggon, parts, from, to)) {
            return refuse(BAD);
        }
        if (now.counts[BRIDGES] == 0 || ways.leastCoin(waggon, parts, from, to, 1) == NO_WAY) {
            return refuse(STUCK);
        }
        int found = NONE;
        int greatest = NONE;
        for (int bridge = 0; bridge < now.counts[BRIDGES]; bridge++) {
            int coin = coinIfFallen(bridge, waggon, parts, from, to);
            if (coin > greatest) {
                greatest = coin;
                found = bridge;
            }
        }
        return found;
    }

    public int fewest(int waggon, int from, int to) {
        if (!isWaggon(waggon) || !isPlace(from) || !isPlace(to)) {
            return refuse(BAD);
        }
        int found = NONE;
        int least = ROOM[PARTS] + 1;
        for (int sent = 0; sent < now.setsOfParts(); sent++) {
            // Sets come in the order of their bits, so a later one has to have fewer parts.
            if (Integer.bitCount(sent) < least && ways.hasWay(waggon, sent, from, to)) {
                found = sent;
                least = Integer.bitCount(sent);
            }
        }
        return found == NONE ? refuse(STUCK) : found;
    }

    public int most(int waggon, int from, int to) {
        if (!isWaggon(waggon) || !isPlace(from) || !isPlace(to)) {
            return refuse(BAD);
        }
        int was = now.settings[WEIGHT];
        int weight = heaviest(waggon, from, to);
        now.settings[WEIGHT] = was;
        return weight == NONE ? refuse(STUCK) : weight;
    }

    public long frost(int waggon, int parts, int from, int to, int d, int chance, int coin) {
        if (!isJourney(waggon, parts, from, to) || !within(d, 0, MAX_DAYS) || !within(chance, 0, TENTHS)
                || !within(coin, 0, MAX_WAITING)) {
            return refuse(BAD);
        }
        int was = now.settings[FROST];
        now.settings[FROST] = 0;
        int bare = ways.leastCoin(waggon, parts, from, to, 1);
        now.settings[FROST] = 1;
        int frozen = ways.leastCoin(waggon, parts, from, to, 1);
        now.settings[FROST] = was;
        return bare == NO_WAY ? refuse(STUCK) : valueOfWaiting(bare, frozen, d, chance, coin);
    }

    // ---- the load on its way

    public int begin(int waggon, int parts, int from, int to) {
        if (!isJourney(waggon, parts, from, to)) {
            return refuse(BAD);
        }
        ways.pack.take(now, waggon, parts);
        now.startTrip(waggon, parts, from, to, ways.pack.sentCoin);
        return 1;
    }

    public int step() {
        int[] trip = now.trip;
        if (!now.onWay || trip[TRIP_PLACE] == trip[TRIP_GOAL]) {
            return refuse(STUCK);
        }
        int road = ways.firstRoad(trip[TRIP_WAGGON], trip[TRIP_SENT], trip[TRIP_PLACE], trip[TRIP_GOAL]);
        if (road == NONE) {
            return refuse(STUCK);
        }
        goAlong(road);
        return road;
    }

    public int under(int what) {
        if (!within(what, 0, TRIP_TOLD - 1)) {
            return refuse(BAD);
        }
        return now.onWay ? now.trip[what] : refuse(STUCK);
    }

    public int image() {
        kept.become(now);
        isKept = true;
        return 1;
    }

    public int back() {
        if (!isKept) {
            return refuse(STUCK);
        }
        now.become(kept);
        shelves.dropBridgesFrom(now.counts[BRIDGES]);
        return 1;
    }

    public int status(int what) {
        if (within(what, ROADS, PARTS)) {
            return now.counts[what];
        }
        if (within(what, FIRST_REFUSAL_WHAT, FIRST_REFUSAL_WHAT + REFUSAL_SORTS - 1)) {
            return refusals[what - FIRST_REFUSAL_WHAT];
        }
        switch (what) {
            case STATUS_TAPE:
                return tape.size;
            case STATUS_SHELVES:
                return shelves.countHeld();
            case STATUS_PROPPED:
                return now.countBridges(PROPPED);
            case STATUS_FALLEN:
                return now.countBridges(FALLEN);
            default:
                return NONE;
        }
    }

    // ---- what the calls share

    private int refuse(int number) {
        int at = BAD - number;
        if (within(at, 0, REFUSAL_SORTS - 1)) {
            refusals[at]++;
        }
        return number;
    }

    private int orStuck(int sum) {
        return sum == NO_WAY ? refuse(STUCK) : sum;
    }

    private static boolean within(int v, int least, int most) {
        return v >= least && v <= most;
    }

    private static int cut(int v, int by) {
        return by <= 0 ? 0 : v / by;
    }

    private static int roundedUp(int v, int by) {
        return by <= 0 ? 0 : (v + by - 1) / by;
    }

    private static boolean isPlace(int place) {
        return within(place, 0, PLACES - 1);
    }

    private static boolean isShelf(int s) {
        return within(s, 0, SHELVES - 1);
    }

    private boolean isRoad(int road) {
        return within(road, 0, now.counts[ROADS] - 1);
    }

    private boolean isBridge(int bridge) {
        return within(bridge, 0, now.counts[BRIDGES] - 1);
    }

    private boolean isWaggon(int waggon) {
        return within(waggon, 0, now.counts[WAGGONS] - 1);
    }

    private boolean isPack(int waggon, int sent) {
        return isWaggon(waggon) && within(sent, 0, now.setsOfParts() - 1);
    }

    private boolean isJourney(int waggon, int sent, int from, int to) {
        return isPack(waggon, sent) && isPlace(from) && isPlace(to);
    }

    private int whyNoRow(int s) {
        if (!isShelf(s)) {
            return BAD;
        }
        if (shelves.holdsBridge(s)) {
            return OTHER;
        }
        return shelves.holdsNothing(s) ? NOTHING : 0;
    }

    private int whyNotTold(int waggon, int sent, int from, int s, int n) {
        if (!isPack(waggon, sent) || !isPlace(from) || !isShelf(s) || !within(n, 0, MAX_TOLD)) {
            return BAD;
        }
        int why = whyNoRow(s);
        if (why != 0) {
            return why;
        }
        return n > shelves.size[s] ? BAD : 0;
    }

    private int firstWrong(int from, int s, int n) {
        ways.setOut(from);
        for (int i = 0; i < n; i++) {
            if (!ways.walk(shelves.elementAt(s, i))) {
                return i;
            }
        }
        return NONE;
    }

    private int spoken(int bridge, int kind) {
        switch (kind) {
            case KIND_BRIDGE:
                return now.ofBridge(bridge, ROAD);
            case KIND_STONE:
            case KIND_ARCHES:
                return now.bearsAxle(bridge);
            case KIND_IRON:
                return now.ofBridge(bridge, SPAN);
            case KIND_UNKNOWN:
                return now.ofBridge(bridge, ASKED);
            default:
                return now.bearsAll(bridge, now.isPropped(bridge));
        }
    }

    private void findBest(int from, int to) {
        bestPack[BEST_COIN] = NO_WAY;
        for (int waggon = 0; waggon < now.counts[WAGGONS]; waggon++) {
            for (int sent = 0; sent < now.setsOfParts(); sent++) {
                // A pack whose parts alone cost as much can't be better: it need not be tried.
                if (now.sumOfParts(sent, PART_COIN) < bestPack[BEST_COIN]) {
                    int coin = ways.leastCoin(waggon, sent, from, to, 1);
                    if (coin < bestPack[BEST_COIN]) {
                        bestPack[BEST_WAGGON] = waggon;
                        bestPack[BEST_SENT] = sent;
                        bestPack[BEST_COIN] = coin;
                    }
                }
            }
        }
    }

    private int coinIfFallen(int bridge, int waggon, int sent, int from, int to) {
        int was = now.ofBridge(bridge, FALLEN);
        now.putBridgeColumn(bridge, FALLEN, 1);
        int coin = ways.leastCoin(waggon, sent, from, to, 1);
        now.putBridgeColumn(bridge, FALLEN, was);
        return coin;
    }

    /** Leaves another weight set: the caller puts the true one back. */
    private int heaviest(int waggon, int from, int to) {
        now.settings[WEIGHT] = 0;
        if (!ways.hasWay(waggon, 0, from, to)) {
            return NONE;
        }
        // Where a weight has a way, every lighter one has it too, so the answer is found bit by bit.
        int weight = 0;
        for (int bit = 512; bit > 0; bit /= 2) {
            now.settings[WEIGHT] = weight + bit;
            if (weight + bit <= MAX_WEIGHT && ways.hasWay(waggon, 0, from, to)) {
                weight += bit;
            }
        }
        return weight;
    }

    private static long valueOfWaiting(long bare, long frozen, int d, int chance, int coin) {
        long value = bare;
        long scale = 1;
        for (int day = 0; day < d; day++) {
            long mean = chance * frozen * scale + (TENTHS - chance) * value;
            scale *= TENTHS;
            value = Math.min(bare * scale, coin * scale + mean);
        }
        return value;
    }

    private void goAlong(int road) {
        int[] trip = now.trip;
        ways.setOut(trip[TRIP_PLACE]);
        ways.walk(road);
        trip[TRIP_PLACE] = ways.walked[WALK_PLACE];
        trip[TRIP_COIN] += ways.walked[WALK_COIN];
        trip[TRIP_DAYS] += ways.walked[WALK_DAYS];
        trip[TRIP_ROADS]++;
        ways.standProps(road);
    }

    /** All that image() keeps. */
    private static final class Land {
        final int[] counts;
        final int[] roads;
        final int[] bridges;
        final int[] waggons;
        final int[] parts;
        final int[] settings;
        final int[] trip;
        boolean onWay;

        Land() {
            counts = new int[ROOM.length];
            roads = new int[ROOM[ROADS] * ROAD_WIDTH];
            bridges = new int[ROOM[BRIDGES] * BRIDGE_WIDTH];
            waggons = new int[ROOM[WAGGONS] * WAGGON_WIDTH];
            parts = new int[ROOM[PARTS] * PART_WIDTH];
            settings = new int[SETTINGS];
            settings[WEIGHT] = 100;
            settings[MILE] = 2;
            trip = new int[TRIP_WIDTH];
            onWay = false;
        }

        void become(Land other) {
            System.arraycopy(other.counts, 0, counts, 0, counts.length);
            System.arraycopy(other.roads, 0, roads, 0, roads.length);
            System.arraycopy(other.bridges, 0, bridges, 0, bridges.length);
            System.arraycopy(other.waggons, 0, waggons, 0, waggons.length);
            System.arraycopy(other.parts, 0, parts, 0, parts.length);
            System.arraycopy(other.settings, 0, settings, 0, settings.length);
            System.arraycopy(other.trip, 0, trip, 0, trip.length);
            onWay = other.onWay;
        }

        boolean hasRoom(int thing) {
            return counts[thing] < ROOM[thing];
        }

        int addRoad(int from, int to, int miles, int rise, int turn, int parish) {
            int at = counts[ROADS] * ROAD_WIDTH;
            roads[at + FROM] = from;
            roads[at + TO] = to;
            roads[at + MILES] = miles;
            roads[at + RISE] = rise;
            roads[at + TURN] = turn;
            roads[at + PARISH] = parish;
            roads[at + SHUT] = 0;
            return counts[ROADS]++;
        }

        int addBridge(int road, int kind, int span, int axle, int all) {
            int at = counts[BRIDGES] * BRIDGE_WIDTH;
            bridges[at + ROAD] = road;
            bridges[at + KIND] = kind;
            bridges[at + SPAN] = span;
            bridges[at + AXLE] = axle;
            bridges[at + ALL] = all;
            // The slot may have been used before back() or a land that failed.
            for (int column = MORE; column < BRIDGE_WIDTH; column++) {
                bridges[at + column] = 0;
            }
            return counts[BRIDGES]++;
        }

        void putProp(int bridge, int more, int coin) {
            putBridgeColumn(bridge, MORE, more);
            putBridgeColumn(bridge, COIN, coin);
        }

        int addWaggon(int axles, int space, int tare) {
            int at = counts[WAGGONS] * WAGGON_WIDTH;
            waggons[at + AXLES] = axles;
            waggons[at + SPACE] = space;
            waggons[at + TARE] = tare;
            return counts[WAGGONS]++;
        }

        int addPart(int weight, int coin) {
            int at = counts[PARTS] * PART_WIDTH;
            parts[at + PART_WEIGHT] = weight;
            parts[at + PART_COIN] = coin;
            return counts[PARTS]++;
        }

        int ofRoad(int road, int column) {
            return roads[road * ROAD_WIDTH + column];
        }

        int ofBridge(int bridge, int column) {
            return bridges[bridge * BRIDGE_WIDTH + column];
        }

        void putBridgeColumn(int bridge, int column, int v) {
            bridges[bridge * BRIDGE_WIDTH + column] = v;
        }

        int ofWaggon(int waggon, int column) {
            return waggons[waggon * WAGGON_WIDTH + column];
        }

        int countBridges(int column) {
            int count = 0;
            for (int bridge = 0; bridge < counts[BRIDGES]; bridge++) {
                count += ofBridge(bridge, column);
            }
            return count;
        }

        int waggonLength(int waggon) {
            return ofWaggon(waggon, SPACE) * (ofWaggon(waggon, AXLES) - 1) + 4;
        }

        int setsOfParts() {
            return 1 << counts[PARTS];
        }

        int sumOfParts(int sent, int column) {
            int sum = 0;
            for (int part = 0; part < counts[PARTS]; part++) {
                if ((sent >> part & 1) == 1) {
                    sum += parts[part * PART_WIDTH + column];
                }
            }
            return sum;
        }

        boolean isPropped(int bridge) {
            return ofBridge(bridge, PROPPED) == 1;
        }

        boolean mayBeTakenFor(int bridge, int kind) {
            return (TAKEN_FOR[ofBridge(bridge, KIND)] >> kind & 1) == 1;
        }

        int bearsAxle(int bridge) {
            int at = bridge * BRIDGE_WIDTH;
            int axle = bridges[at + AXLE];
            return believed(at, bridges[at + KIND] == KIND_ARCHES ? axle + ARCHES_MORE : axle);
        }

        int bearsAll(int bridge, boolean propped) {
            int at = bridge * BRIDGE_WIDTH;
            int kind = bridges[at + KIND];
            int all = bridges[at + ALL];
            boolean stone = kind == KIND_STONE || kind == KIND_ARCHES;
            int unpropped = believed(at, stone ? all + all / 10 : all);
            // A prop bears under a ford without frost too, but not under what has fallen.
            return propped && bridges[at + FALLEN] == 0 ? unpropped + bridges[at + MORE] : unpropped;
        }

        private int believed(int at, int v) {
            int kind = bridges[at + KIND];
            if (bridges[at + FALLEN] == 1 || kind == KIND_FORD && settings[FROST] == 0) {
                return 0;
            }
            boolean unknown = kind == KIND_UNKNOWN || kind == KIND_FORD;
            return unknown && bridges[at + ASKED] == 0 ? v / 2 : v;
        }

        void startTrip(int waggon, int sent, int from, int to, int coin) {
            trip[TRIP_PLACE] = from;
            trip[TRIP_GOAL] = to;
            trip[TRIP_COIN] = coin;
            trip[TRIP_DAYS] = 0;
            trip[TRIP_ROADS] = 0;
            trip[TRIP_WAGGON] = waggon;
            trip[TRIP_SENT] = sent;
            onWay = true;
        }
    }

    /** A waggon with the load, less the parts that are sent. */
    private static final class Pack {
        int axles;
        int space;
        int fullLength;
        int axleLoad;
        int sentCoin;

        void take(Land land, int waggon, int sent) {
            axles = land.ofWaggon(waggon, AXLES);
            space = land.ofWaggon(waggon, SPACE);
            fullLength = land.waggonLength(waggon);
            int weight = land.ofWaggon(waggon, TARE) + land.settings[WEIGHT] - land.sumOfParts(sent, PART_WEIGHT);
            axleLoad = roundedUp(Math.max(weight, 0), axles);
            sentCoin = land.sumOfParts(sent, PART_COIN);
        }

        int strainOn(int span) {
            return Math.min(axles, cut(span, space) + 1) * axleLoad;
        }

        int needsOf(Land land, int bridge) {
            if (axleLoad > land.bearsAxle(bridge)) {
                return NEEDS_TOO_MUCH;
            }
            int strain = strainOn(land.ofBridge(bridge, SPAN));
            boolean propped = land.isPropped(bridge);
            if (strain <= land.bearsAll(bridge, propped)) {
                return HOLDS;
            }
            if (propped || land.ofBridge(bridge, KIND) == KIND_IRON) {
                return NEEDS_TOO_MUCH;
            }
            return strain <= land.bearsAll(bridge, true) ? NEEDS_PROP : NEEDS_TOO_MUCH;
        }
    }

    /** Roads as they are for one pack, and what is found over them; its rows are used again by every call. */
    private static final class Ways {
        final Land land;
        final Pack pack;
        // How many props a road's bridges need; NONE: the road doesn't go.
        final int[] props;
        final int[] propCoin;
        final int[] price;
        final int[] far;
        final int[] walked;

        Ways(Land land) {
            this.land = land;
            pack = new Pack();
            props = new int[ROOM[ROADS]];
            propCoin = new int[ROOM[ROADS]];
            price = new int[ROOM[ROADS]];
            far = new int[PLACES];
            walked = new int[WALK_WIDTH];
        }

        void survey(int waggon, int sent) {
            pack.take(land, waggon, sent);
            for (int road = 0; road < land.counts[ROADS]; road++) {
                boolean passable = land.ofRoad(road, SHUT) == 0 && land.ofRoad(road, TURN) >= pack.fullLength;
                props[road] = passable ? 0 : NONE;
                propCoin[road] = 0;
            }
            for (int bridge = 0; bridge < land.counts[BRIDGES]; bridge++) {
                int road = land.ofBridge(bridge, ROAD);
                int need = props[road] == NONE ? NEEDS_TOO_MUCH : pack.needsOf(land, bridge);
                if (need == NEEDS_TOO_MUCH) {
                    props[road] = NONE;
                } else if (need == NEEDS_PROP) {
                    props[road]++;
                    propCoin[road] += land.ofBridge(bridge, COIN);
                }
            }
        }

        int engines(int road) {
            return 1 + land.ofRoad(road, RISE) * pack.axleLoad / 100;
        }

        int coinOf(int road, int loads) {
            return loads * land.settings[MILE] * land.ofRoad(road, MILES) * engines(road) + propCoin[road];
        }

        int daysOf(int road) {
            return roundedUp(land.ofRoad(road, MILES), 10) + DAYS_A_PROP * props[road];
        }

        int leastCoin(int waggon, int sent, int from, int to, int loads) {
            survey(waggon, sent);
            priceByCoin(loads);
            spread(from);
            return far[to] == NO_WAY ? NO_WAY : far[to] + loads * pack.sentCoin;
        }

        int leastDays(int waggon, int sent, int from, int to) {
            survey(waggon, sent);
            for (int road = 0; road < land.counts[ROADS]; road++) {
                price[road] = daysOf(road);
            }
            spread(from);
            return far[to];
        }

        int reached(int waggon, int sent, int from) {
            survey(waggon, sent);
            priceByCoin(1);
            spread(from);
            int bits = 0;
            for (int place = 0; place < PLACES; place++) {
                if (far[place] != NO_WAY) {
                    bits |= 1 << place;
                }
            }
            return bits;
        }

        boolean hasWay(int waggon, int sent, int from, int to) {
            survey(waggon, sent);
            priceByCoin(1);
            spread(from);
            return far[to] != NO_WAY;
        }

        private void priceByCoin(int loads) {
            for (int road = 0; road < land.counts[ROADS]; road++) {
                price[road] = coinOf(road, loads);
            }
        }

        /** Fills far with the least sum of price from a place to each place: roads go both ways. */
        private void spread(int from) {
            for (int place = 0; place < PLACES; place++) {
                far[place] = NO_WAY;
            }
            far[from] = 0;
            boolean changed = true;
            for (int round = 0; round < PLACES && changed; round++) {
                changed = false;
                for (int road = 0; road < land.counts[ROADS]; road++) {
                    if (props[road] != NONE && shorten(road)) {
                        changed = true;
                    }
                }
            }
        }

        private boolean shorten(int road) {
            int a = land.ofRoad(road, FROM);
            int b = land.ofRoad(road, TO);
            if (far[a] != NO_WAY && far[a] + price[road] < far[b]) {
                far[b] = far[a] + price[road];
                return true;
            }
            if (far[b] != NO_WAY && far[b] + price[road] < far[a]) {
                far[a] = far[b] + price[road];
                return true;
            }
            return false;
        }

        /** The least road that begins a cheapest way; NONE: there is no way. */
        int firstRoad(int waggon, int sent, int from, int to) {
            survey(waggon, sent);
            priceByCoin(1);
            spread(to);
            for (int road = 0; road < land.counts[ROADS]; road++) {
                int next = otherEnd(road, from);
                if (props[road] != NONE && next != NONE && far[next] != NO_WAY
                        && far[next] + price[road] == far[from]) {
                    return road;
                }
            }
            return NONE;
        }

        private int otherEnd(int road, int place) {
            if (land.ofRoad(road, FROM) == place) {
                return land.ofRoad(road, TO);
            }
            return land.ofRoad(road, TO) == place ? land.ofRoad(road, FROM) : NONE;
        }

        void setOut(int from) {
            walked[WALK_COIN] = 0;
            walked[WALK_DAYS] = 0;
            walked[WALK_PARISHES] = 0;
            walked[WALK_PLACE] = from;
        }

        /** Goes one road on over what was surveyed; false, and nothing changes, if it can't be gone. */
        boolean walk(long number) {
            if (number < 0 || number >= land.counts[ROADS]) {
                return false;
            }
            int road = (int) number;
            int next = otherEnd(road, walked[WALK_PLACE]);
            if (props[road] == NONE || next == NONE) {
                return false;
            }
            walked[WALK_COIN] += coinOf(road, 1);
            walked[WALK_DAYS] += daysOf(road);
            walked[WALK_PARISHES] |= 1 << land.ofRoad(road, PARISH);
            walked[WALK_PLACE] = next;
            return true;
        }

        void standProps(int road) {
            for (int bridge = 0; bridge < land.counts[BRIDGES]; bridge++) {
                if (land.ofBridge(bridge, ROAD) == road && pack.needsOf(land, bridge) == NEEDS_PROP) {
                    land.putBridgeColumn(bridge, PROPPED, 1);
                }
            }
        }
    }

    /** What stands in held is what holds() answers. */
    private static final class Shelves {
        final int[] held;
        final int[] size;
        final long[] cells;

        Shelves() {
            held = new int[SHELVES];
            size = new int[SHELVES];
            cells = new long[SHELVES * ROW_ROOM];
            for (int s = 0; s < SHELVES; s++) {
                held[s] = NONE;
            }
        }

        boolean holdsNothing(int s) {
            return held[s] == NONE;
        }

        boolean holdsBridge(int s) {
            return held[s] >= FIRST_BRIDGE_HELD;
        }

        boolean holdsRow(int s) {
            return !holdsNothing(s) && !holdsBridge(s);
        }

        boolean holdsUnlikeRows(int p, int q) {
            return holdsRow(p) && holdsRow(q) && held[p] != held[q];
        }

        int countHeld() {
            int count = 0;
            for (int s = 0; s < SHELVES; s++) {
                if (!holdsNothing(s)) {
                    count++;
                }
            }
            return count;
        }

        void putRow(int s, int sort, int n) {
            held[s] = sort;
            size[s] = n;
            for (int i = 0; i < n; i++) {
                cells[s * ROW_ROOM + i] = 0;
            }
        }

        void putBridge(int s, int bridge) {
            held[s] = bridge == NONE ? NONE : FIRST_BRIDGE_HELD + bridge;
            size[s] = 0;
        }

        void dropBridgesFrom(int count) {
            for (int s = 0; s < SHELVES; s++) {
                if (held[s] >= FIRST_BRIDGE_HELD + count) {
                    putBridge(s, NONE);
                }
            }
        }

        long elementAt(int s, int i) {
            return within(i, 0, size[s] - 1) ? cells[s * ROW_ROOM + i] : 0;
        }

        void putElement(int s, int i, long v) {
            cells[s * ROW_ROOM + i] = asSort(held[s], v);
        }

        private static long asSort(int sort, long v) {
            switch (sort) {
                case SORT_BYTES:
                    return (byte) v;
                case SORT_SHORTS:
                    return (short) v;
                case SORT_INTS:
                    return (int) v;
                case SORT_BOOLEANS:
                    return v != 0 ? 1 : 0;
                default:
                    return v;
            }
        }

        void copyElements(int p, int q, int i, int j, int n) {
            System.arraycopy(cells, p * ROW_ROOM + i, cells, q * ROW_ROOM + j, n);
        }
    }

    /** The tape and the token on it that is looked at; once there is a fault, nothing more is taken from it. */
    private static final class Tape {
        final int[] bytes;
        int size;
        int fault;
        private int sort;
        private int start;
        private int end;

        Tape() {
            bytes = new int[TAPE_ROOM];
            size = 0;
            fault = NONE;
        }

        void append(int v, int n) {
            for (int i = n - 1; i >= 0; i--) {
                bytes[size] = v >> 8 * i & 255;
                size++;
            }
        }

        void rewind() {
            fault = NONE;
            end = 0;
            advance();
        }

        void advance() {
            start = end;
            while (start < size && bytes[start] == ' ') {
                start++;
            }
            end = start;
            while (end < size && bytes[end] >= 'a' && bytes[end] <= 'z') {
                end++;
            }
            if (end > start) {
                sort = TOKEN_WORD;
                return;
            }
            while (end < size && bytes[end] >= '0' && bytes[end] <= '9') {
                end++;
            }
            if (end > start) {
                sort = TOKEN_NUMBER;
                return;
            }
            if (start >= size) {
                sort = TOKEN_END;
                return;
            }
            sort = bytes[start] == ';' ? TOKEN_SIGN : TOKEN_WRONG;
            end = start + 1;
        }

        boolean isSound() {
            return fault == NONE;
        }

        void fail() {
            if (fault == NONE) {
                fault = start;
            }
        }

        boolean isEnd() {
            return sort == TOKEN_END;
        }

        boolean isWord(String word) {
            if (fault != NONE || sort != TOKEN_WORD || end - start != word.length()) {
                return false;
            }
            for (int i = 0; i < word.length(); i++) {
                if (bytes[start + i] != word.charAt(i)) {
                    return false;
                }
            }
            return true;
        }

        void takeSign() {
            if (sort == TOKEN_SIGN) {
                advance();
            } else {
                fail();
            }
        }

        void takeWord(String word) {
            if (isWord(word)) {
                advance();
            } else {
                fail();
            }
        }

        boolean takeWordIfThere(String word) {
            boolean there = isWord(word);
            if (there) {
                advance();
            }
            return there;
        }

        int takeNumber(int least, int most) {
            int v = numberHere();
            if (!isSound() || !within(v, least, most)) {
                fail();
                return NONE;
            }
            advance();
            return v;
        }

        /** NONE, which no number may be, if the token is none or too long. */
        int numberHere() {
            if (sort != TOKEN_NUMBER || end - start > MAX_DIGITS) {
                return NONE;
            }
            int v = 0;
            for (int i = start; i < end; i++) {
                v = v * 10 + bytes[i] - '0';
            }
            return v;
        }
    }

    /** Reads a land from the tape into what there is, or leaves that as it was. */
    private static final class Reader {
        final Tape tape;
        final Land land;
        final int[] countsBefore;
        final int[] settingsBefore;

        Reader(Tape tape, Land land) {
            this.tape = tape;
            this.land = land;
            countsBefore = new int[ROOM.length];
            settingsBefore = new int[SETTINGS];
        }

        /** How many statements there were, if the tape has no fault then. */
        int read() {
            System.arraycopy(land.counts, 0, countsBefore, 0, countsBefore.length);
            System.arraycopy(land.settings, 0, settingsBefore, 0, settingsBefore.length);
            tape.rewind();
            readStatement();
            int statements = 1;
            // Every statement takes a byte at least, so the tape ends before the counter does.
            while (tape.isSound() && !tape.isEnd() && statements < TAPE_ROOM) {
                tape.takeSign();
                readStatement();
                statements++;
            }
            if (!tape.isSound()) {
                // What lies behind the counts is never looked at, so they alone undo what was added.
                System.arraycopy(countsBefore, 0, land.counts, 0, countsBefore.length);
                System.arraycopy(settingsBefore, 0, land.settings, 0, settingsBefore.length);
            }
            return statements;
        }

        private void readStatement() {
            if (tape.isWord("road")) {
                readRoad();
            } else if (tape.isWord("bridge")) {
                readBridge();
            } else if (tape.isWord("waggon")) {
                readWaggon();
            } else if (tape.isWord("part")) {
                readPart();
            } else if (tape.takeWordIfThere("load")) {
                readSetting(WEIGHT);
            } else if (tape.takeWordIfThere("mile")) {
                readSetting(MILE);
            } else {
                tape.fail();
            }
        }

        private void enter(int thing) {
            if (land.hasRoom(thing)) {
                tape.advance();
            } else {
                tape.fail();
            }
        }

        private void readRoad() {
            enter(ROADS);
            int from = tape.takeNumber(0, PLACES - 1);
            if (tape.numberHere() == from) {
                tape.fail();
            }
            int to = tape.takeNumber(0, PLACES - 1);
            int miles = number("miles", 1, MAX_MILES);
            int rise = numberIfTold("rise", 0, MAX_RISE, 0);
            int turn = numberIfTold("turn", 1, MAX_TURN, MAX_TURN);
            int parish = numberIfTold("parish", 0, MAX_PARISH, 0);
            if (tape.isSound()) {
                land.addRoad(from, to, miles, rise, turn, parish);
            }
        }

        private void readBridge() {
            enter(BRIDGES);
            int road = tape.takeNumber(0, land.counts[ROADS] - 1);
            int kind = number("kind", 0, MAX_KIND);
            int span = number("span", 0, MAX_SPAN);
            int axle = number("axle", 1, MAX_AXLE);
            int all = number("all", 1, MAX_ALL);
            int more = 0;
            int coin = 0;
            if (tape.takeWordIfThere("prop")) {
                more = tape.takeNumber(0, MAX_PROP);
                coin = tape.takeNumber(0, MAX_PROP);
            }
            if (tape.isSound()) {
                land.putProp(land.addBridge(road, kind, span, axle, all), more, coin);
            }
        }

        private void readWaggon() {
            enter(WAGGONS);
            int axles = tape.takeNumber(MIN_AXLES, MAX_AXLES);
            int space = number("space", 1, MAX_SPACE);
            int tare = number("tare", 0, MAX_TARE);
            if (tape.isSound()) {
                land.addWaggon(axles, space, tare);
            }
        }

        private void readPart() {
            enter(PARTS);
            int weight = tape.takeNumber(1, MAX_PART_WEIGHT);
            int coin = tape.takeNumber(0, MAX_PART_COIN);
            if (tape.isSound()) {
                land.addPart(weight, coin);
            }
        }

        private void readSetting(int setting) {
            int v = tape.takeNumber(0, MAX_SETTING[setting]);
            if (tape.isSound()) {
                land.settings[setting] = v;
            }
        }

        private int number(String word, int least, int most) {
            tape.takeWord(word);
            return tape.takeNumber(least, most);
        }

        private int numberIfTold(String word, int least, int most, int otherwise) {
            return tape.takeWordIfThere(word) ? tape.takeNumber(least, most) : otherwise;
        }
    }
}
