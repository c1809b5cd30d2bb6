/** Promises 28 to 38: ties, one place, no way, all places, and the ends of what each of them counts. */
public final class WaysEdgesTest {
    private static final Check CHECK = new Check("WaysEdgesTest");

    public static void main(String[] args) {
        onePlace();
        allPlaces();
        worstOrder();
        likeRoads();
        propOrMiles();
        propsOnceAndAgain();
        partsEachTime();
        greatestSums();
        bestOfLikes();
        bestOfOnlyOne();
        judgeByEveryElement();
        judgeWhatIsNoRoad();
        judgeWhatDoesntGo();
        judgeTwenty();
        toldTwenty();
        toldParishes();
        toldByPack();
        hangFirstAndLast();
        hangNoneAtAll();
        hangWhatCostsMore();
        fewestThenAsBits();
        fewestOfNone();
        mostEveryWeight();
        mostAtItsEnds();
        frostDays();
        frostChances();
        frostThatHelpsNothing();
        frostNow();
        frostIsLong();
        CHECK.end();
    }

    private static void due(String call, long got, long want) {
        CHECK.due(call, got, want);
    }

    /** A waggon of 5 axles (AXLELOAD 20, 3 of them on a span of 8), and no roads yet. */
    private static OneHeavyLoad start() {
        OneHeavyLoad x = new OneHeavyLoad();
        x.waggon(5, 4, 0);
        return x;
    }

    // ---- cheapest, soonest, again, reach

    private static void onePlace() {
        OneHeavyLoad x = start();
        x.part(10, 99);
        x.part(10, 1);
        for (int place = 0; place <= 15; place++) {
            due("28: 0, if they are one", x.cheapest(0, 0, place, place), 0);
            due("28: and PARTS", x.cheapest(0, 3, place, place), 100);
            due("29: one PLACE", x.soonest(0, 3, place, place), 0);
            due("30: one PLACE", x.again(0, 3, place, place, 20), 2000);
            due("34: one PLACE", x.reach(0, 3, place), 1 << place);
            due("28: to another", x.cheapest(0, 0, place, place ^ 1), -5);
        }
        due("36: one PLACE", x.fewest(0, 3, 3), 0);
        due("37: one PLACE", x.most(0, 3, 3), 900);
        due("38: one PLACE", x.frost(0, 3, 3, 3, 6, 5, 999), 100000000);
        due("31: one PLACE", x.best(3, 3, 2), 0);
        due("31: one PLACE", x.best(3, 3, 1), 0);
    }

    private static void allPlaces() {
        OneHeavyLoad x = start();
        for (int place = 1; place <= 15; place++) {
            due("34: some PLACES", x.reach(0, 0, 0), (1 << place) - 1);
            x.road(place - 1, place, place, 0, 99, 0);
        }
        for (int place = 0; place <= 15; place++) {
            due("34: all PLACES", x.reach(0, 0, place), 65535);
        }
        due("28: end to end", x.cheapest(0, 0, 0, 15), 240);
        due("28: end to end, back", x.cheapest(0, 0, 15, 0), 240);
        due("29: end to end", x.soonest(0, 0, 0, 15), 20);
        x.shut(7, true);
        due("34: one side", x.reach(0, 0, 0), 255);
        due("34: the other side", x.reach(0, 0, 15), 65535 - 255);
        due("28: cut in two", x.cheapest(0, 0, 7, 8), -5);
        due("29: cut in two", x.soonest(0, 0, 8, 7), -5);
        due("30: cut in two", x.again(0, 0, 8, 7, 1), -5);
    }

    /** The sums must be spread 15 times over roads that are told in the worst order, and each time become less. */
    private static void worstOrder() {
        OneHeavyLoad x = start();
        for (int place = 14; place >= 0; place--) {
            x.road(place, place + 1, 1, 0, 99, 0);
        }
        for (int place = 2; place <= 10; place++) {
            x.road(0, place, 60, 0, 99, 0);
        }
        for (int place = 0; place <= 15; place++) {
            due("28: all the short ones", x.cheapest(0, 0, 0, place), 2 * place);
            due("28: all the short ones, back", x.cheapest(0, 0, place, 0), 2 * place);
            // A day for each place, or 6 to place 10 by a long road and on from there.
            due("29: the sooner ones", x.soonest(0, 0, 0, place), Math.min(place, Math.max(6, place - 4)));
        }
    }

    private static void likeRoads() {
        OneHeavyLoad x = start();
        x.road(0, 1, 30, 0, 99, 0);
        x.road(1, 0, 20, 0, 99, 0);
        x.road(0, 1, 10, 0, 99, 0);
        x.road(0, 1, 20, 0, 99, 0);
        int[] sums = {20, 40, 40, 60, -5};
        int[] shut = {2, 1, 3, 0};
        for (int i = 0; i < sums.length; i++) {
            due("28: the least of several ROADS", x.cheapest(0, 0, 0, 1), sums[i]);
            due("28: either way", x.cheapest(0, 0, 1, 0), sums[i]);
            if (i < shut.length) {
                x.shut(shut[i], true);
            }
        }
    }

    private static void propOrMiles() {
        OneHeavyLoad x = start();
        x.road(0, 1, 10, 0, 99, 0);
        x.bridge(0, 0, 8, 20, 59);
        x.road(0, 1, 40, 0, 99, 0);
        int[] coins = {0, 59, 60, 61, 999};
        int[] sums = {20, 79, 80, 80, 80};
        for (int i = 0; i < coins.length; i++) {
            x.prop(0, 1, coins[i]);
            due("28: a PROP for " + coins[i], x.cheapest(0, 0, 0, 1), sums[i]);
            due("29: its days are the same", x.soonest(0, 0, 0, 1), 4);
        }
        x.road(0, 1, 30, 0, 99, 0);
        due("29: a day sooner than a PROP", x.soonest(0, 0, 0, 1), 3);
        x.shut(1, true);
        x.shut(2, true);
        due("29: a PROP's 3 days", x.soonest(0, 0, 0, 1), 4);
        due("28: a PROP's coin", x.cheapest(0, 0, 0, 1), 1019);
    }

    private static void propsOnceAndAgain() {
        OneHeavyLoad x = start();
        x.road(0, 1, 10, 0, 99, 0);
        x.bridge(0, 0, 8, 20, 59);
        x.prop(0, 1, 400);
        x.road(0, 1, 20, 0, 99, 0);
        int[] loads = {1, 2, 19, 20};
        int[] sums = {40, 80, 760, 800};
        for (int i = 0; i < loads.length; i++) {
            due("30: " + loads[i] + " LOADS", x.again(0, 0, 0, 1, loads[i]), sums[i]);
        }
        x.prop(0, 1, 399);
        due("30: the PROP pays for 20", x.again(0, 0, 0, 1, 20), 799);
        due("30: and not for 19", x.again(0, 0, 0, 1, 19), 760);
        x.stand(0, 0, true);
        due("30: it stands", x.again(0, 0, 0, 1, 20), 400);
        due("30: none of 0", x.again(0, 0, 0, 1, 0), -2);
        due("30: none of 21", x.again(0, 0, 0, 1, 21), -2);
    }

    private static void partsEachTime() {
        OneHeavyLoad x = start();
        x.part(10, 7);
        x.part(10, 5);
        x.road(0, 1, 10, 0, 99, 0);
        for (int n = 1; n <= 20; n++) {
            due("30: PARTS' COIN n times", x.again(0, 3, 0, 1, n), 32 * n);
            due("30: no PARTS", x.again(0, 0, 0, 1, n), 20 * n);
        }
        due("28: once", x.cheapest(0, 3, 0, 1), 32);
        due("29: no DAYS for PARTS", x.soonest(0, 3, 0, 1), 1);
    }

    private static void greatestSums() {
        OneHeavyLoad x = new OneHeavyLoad();
        x.waggon(2, 1, 99);
        x.ask(0, 900);
        x.ask(1, 99);
        for (int place = 0; place < 15; place++) {
            x.road(place, place + 1, 60, 9, 99, place);
        }
        due("28: the greatest", x.cheapest(0, 0, 0, 15), 15 * 273240);
        due("30: the greatest", x.again(0, 0, 0, 15, 20), 300 * 273240);
        due("29: the greatest", x.soonest(0, 0, 0, 15), 90);
        x.ask(1, 0);
        due("28: for nothing", x.cheapest(0, 0, 0, 15), 0);
        due("30: for nothing", x.again(0, 0, 0, 15, 20), 0);
        due("34: for nothing", x.reach(0, 0, 0), 65535);
    }

    // ---- best

    private static void bestOfLikes() {
        OneHeavyLoad x = new OneHeavyLoad();
        x.waggon(12, 9, 0);
        x.waggon(5, 4, 0);
        x.waggon(5, 4, 0);
        x.part(10, 0);
        x.part(10, 0);
        x.road(0, 1, 10, 0, 99, 0);
        due("31: of several the least waggon that has a WAY", x.best(0, 1, 0), 1);
        due("31: then the least set", x.best(0, 1, 1), 0);
        due("31: COIN", x.best(0, 1, 2), 20);
        x.bridge(0, 0, 8, 18, 999);
        due("31: the least waggon", x.best(0, 1, 0), 1);
        due("31: the least set that lightens it", x.best(0, 1, 1), 1);
        x.bridge(0, 0, 8, 16, 999);
        due("31: both", x.best(0, 1, 1), 3);
        x.part(10, 0);
        due("31: of several the least", x.best(0, 1, 1), 3);
        x.waggon(10, 2, 0);
        due("31: a later waggon is no better, if it costs the same", x.best(0, 1, 0), 1);
        due("31: nor sends it less", x.best(0, 1, 1), 3);
        OneHeavyLoad y = new OneHeavyLoad();
        y.waggon(5, 4, 0);
        y.waggon(10, 2, 0);
        y.part(10, 1);
        y.road(0, 1, 10, 0, 99, 0);
        y.bridge(0, 0, 8, 18, 999);
        due("31: a later waggon that is a coin cheaper", y.best(0, 1, 0), 1);
        due("31: it sends none", y.best(0, 1, 1), 0);
        due("31: COIN", y.best(0, 1, 2), 20);
    }

    private static void bestOfOnlyOne() {
        OneHeavyLoad x = new OneHeavyLoad();
        for (int waggon = 0; waggon < 5; waggon++) {
            x.waggon(2 + waggon, 1, 0);
        }
        for (int part = 0; part < 5; part++) {
            x.part(10, 99);
        }
        x.road(0, 1, 1, 0, 99, 0);
        x.bridge(0, 0, 0, 9, 99);
        due("31: the last waggon", x.best(0, 1, 0), 4);
        due("31: the last set", x.best(0, 1, 1), 31);
        due("31: COIN", x.best(0, 1, 2), 497);
        x.ask(0, 105);
        for (int what = 0; what <= 2; what++) {
            due("31: no PACK has a WAY", x.best(0, 1, what), -5);
        }
        due("31: to the same PLACE", x.best(1, 1, 0), 0);
    }

    // ---- told ways

    private static OneHeavyLoad line() {
        OneHeavyLoad x = start();
        for (int place = 0; place < 15; place++) {
            x.road(place, place + 1, 10, 0, 99, place);
        }
        return x;
    }

    /** A way of 15 roads; each by turns is spoilt. */
    private static void judgeByEveryElement() {
        OneHeavyLoad x = line();
        x.row(0, 0, 15);
        for (int i = 0; i < 15; i++) {
            x.set(0, i, i);
        }
        for (int i = 0; i < 15; i++) {
            due("32: right so far", x.judge(0, 0, 0, 0, i), -1);
            x.set(0, i, (i + 2) % 15);
            due("32: not asked that far", x.judge(0, 0, 0, 0, i), -1);
            due("32: the first that is wrong", x.judge(0, 0, 0, 0, i + 1), i);
            due("32: whatever comes behind", x.judge(0, 0, 0, 0, 15), i);
            due("33: STUCK", x.told(0, 0, 0, 0, i + 1, 3), -5);
            due("33: not asked that far", x.told(0, 0, 0, 0, i, 3), i);
            x.set(0, i, i);
        }
        due("32: right", x.judge(0, 0, 0, 0, 15), -1);
        due("32: fewer elements", x.judge(0, 0, 0, 0, 16), -2);
        due("32: none, from anywhere", x.judge(0, 0, 15, 0, 0), -1);
        due("32: from another PLACE", x.judge(0, 0, 15, 0, 1), 0);
        due("32: the first ROAD the other way", x.judge(0, 0, 1, 0, 1), -1);
        due("32: the second then doesn't go on", x.judge(0, 0, 1, 0, 2), 1);
    }

    private static void judgeWhatIsNoRoad() {
        OneHeavyLoad x = start();
        x.road(0, 1, 10, 0, 99, 0);
        x.row(0, 3, 3);
        long[] none = {1, 2, 23, 24, -1, Integer.MAX_VALUE, Integer.MIN_VALUE, Long.MAX_VALUE, Long.MIN_VALUE, 1L << 32, 1L << 40};
        for (long v : none) {
            x.set(0, 0, v);
            due("32: no ROAD " + v, x.judge(0, 0, 0, 0, 1), 0);
            due("33: no ROAD " + v, x.told(0, 0, 0, 0, 1, 3), -5);
        }
        x.set(0, 0, 0);
        x.set(0, 1, 1);
        due("32: one behind the last ROAD", x.judge(0, 0, 0, 0, 2), 1);
        OneHeavyLoad bare = start();
        bare.row(0, 4, 1);
        due("32: no ROADS at all", bare.judge(0, 0, 0, 0, 1), 0);
        due("32: none told", bare.judge(0, 0, 0, 0, 0), -1);
        // Bytes keep their lowest bits: 256 is told as 0, and 255 as -1.
        x.row(1, 0, 1);
        x.set(1, 0, 256);
        due("32: a byte of 256", x.judge(0, 0, 0, 1, 1), -1);
        x.set(1, 0, 255);
        due("32: a byte of 255", x.judge(0, 0, 0, 1, 1), 0);
    }

    private static void judgeWhatDoesntGo() {
        OneHeavyLoad x = start();
        x.waggon(6, 4, 0);
        x.part(1, 0);
        x.road(0, 1, 10, 0, 20, 0);
        x.bridge(0, 0, 8, 20, 60);
        x.row(0, 1, 1);
        due("32: it GOES", x.judge(0, 0, 0, 0, 1), -1);
        due("32: too long to turn", x.judge(1, 0, 0, 0, 1), 0);
        x.ask(0, 101);
        due("32: too heavy", x.judge(0, 0, 0, 0, 1), 0);
        due("32: a PART sent", x.judge(0, 1, 0, 0, 1), -1);
        x.ask(0, 100);
        x.shut(0, true);
        due("32: shut", x.judge(0, 0, 0, 0, 1), 0);
        x.shut(0, false);
        x.stand(0, 1, true);
        due("32: FALLEN", x.judge(0, 0, 0, 0, 1), 0);
        x.stand(0, 1, false);
        x.bridge(0, 0, 8, 20, 59);
        x.prop(1, 1, 5);
        due("32: it NEEDS a PROP, and GOES", x.judge(0, 0, 0, 0, 1), -1);
        due("33: with its COIN", x.told(0, 0, 0, 0, 1, 0), 25);
        due("33: and its DAYS", x.told(0, 0, 0, 0, 1, 1), 4);
    }

    private static void judgeTwenty() {
        OneHeavyLoad x = start();
        x.road(0, 1, 10, 0, 99, 0);
        x.row(0, 2, 40);
        x.set(0, 19, 5);
        due("32: the twentieth is wrong", x.judge(0, 0, 0, 0, 20), 19);
        due("32: nineteen are right", x.judge(0, 0, 0, 0, 19), -1);
        x.set(0, 19, 0);
        x.set(0, 20, 5);
        due("32: twenty are right", x.judge(0, 0, 0, 0, 20), -1);
        due("32: twenty-one may not be told", x.judge(0, 0, 0, 0, 21), -2);
        x.row(1, 2, 20);
        due("32: just twenty", x.judge(0, 0, 0, 1, 20), -1);
        x.row(1, 2, 19);
        due("32: fewer", x.judge(0, 0, 0, 1, 20), -2);
        x.row(1, 2, 0);
        due("32: none of none", x.judge(0, 0, 0, 1, 0), -1);
        due("32: one of none", x.judge(0, 0, 0, 1, 1), -2);
    }

    /** "A ROAD that is used twice is counted twice": its PROPS too, for none stands by telling. */
    private static void toldTwenty() {
        OneHeavyLoad x = start();
        x.road(0, 1, 11, 0, 99, 7);
        x.bridge(0, 0, 8, 20, 59);
        x.prop(0, 1, 5);
        x.row(0, 2, 20);
        for (int n = 0; n <= 20; n++) {
            due("33: COIN", x.told(0, 0, 0, 0, n, 0), 27 * n);
            due("33: DAYS", x.told(0, 0, 0, 0, n, 1), 5 * n);
            due("33: PARISHES", x.told(0, 0, 0, 0, n, 2), n == 0 ? 0 : 1);
            due("33: PLACE", x.told(0, 0, 0, 0, n, 3), n % 2);
        }
        due("33: no PROP stands", x.status(6), 0);
        due("33: nothing refused", x.status(12), 0);
    }

    private static void toldParishes() {
        OneHeavyLoad x = start();
        for (int place = 0; place < 16; place++) {
            x.road(place, (place + 1) % 16, 1, 0, 99, place);
        }
        x.row(0, 0, 20);
        for (int i = 0; i < 20; i++) {
            x.set(0, i, i % 16);
        }
        for (int n = 0; n <= 20; n++) {
            due("33: PARISHES unlike one another", x.told(0, 0, 0, 0, n, 2), Math.min(n, 16));
            due("33: PLACE", x.told(0, 0, 0, 0, n, 3), n % 16);
        }
        due("33: each call for itself", x.told(0, 0, 0, 0, 1, 2), 1);
        due("33: from another PLACE", x.told(0, 0, 1, 0, 1, 2), 1);
        due("33: STUCK", x.told(0, 0, 2, 0, 1, 2), -5);
        due("33: none", x.told(0, 0, 2, 0, 0, 2), 0);
    }

    private static void toldByPack() {
        OneHeavyLoad x = start();
        x.waggon(2, 1, 0);
        x.part(10, 99);
        x.road(0, 1, 10, 2, 99, 0);
        x.row(0, 0, 1);
        due("33: COIN of its ROADS alone", x.told(0, 1, 0, 0, 1, 0), 20);
        due("33: by the other waggon", x.told(1, 0, 0, 0, 1, 0), 40);
        due("33: by the other waggon, a PART sent", x.told(1, 1, 0, 0, 1, 0), 20);
        x.ask(1, 5);
        due("33: mile 5", x.told(1, 0, 0, 0, 1, 0), 100);
    }

    // ---- hang

    private static void hangFirstAndLast() {
        OneHeavyLoad x = line();
        for (int bridge = 0; bridge < 16; bridge++) {
            x.bridge(bridge % 15, 0, 8, 99, 999);
        }
        due("35: of several the first", x.hang(0, 0, 0, 15), 0);
        due("35: only one on its way", x.hang(0, 0, 14, 15), 14);
        due("35: of two the first", x.hang(0, 0, 0, 1), 0);
        due("35: none on its way", x.hang(0, 0, 4, 4), 0);
        x.road(0, 1, 60, 0, 99, 0);
        due("35: another WAY round the first", x.hang(0, 0, 0, 2), 1);
        due("35: dearer without the first", x.hang(0, 0, 0, 1), 0);
        OneHeavyLoad y = start();
        y.road(2, 3, 10, 0, 99, 0);
        y.road(0, 1, 10, 0, 99, 0);
        for (int bridge = 0; bridge < 16; bridge++) {
            y.bridge(bridge == 15 ? 1 : 0, 0, 8, 99, 999);
        }
        due("35: the last BRIDGE", y.hang(0, 0, 0, 1), 15);
        due("44: nothing has FALLEN", y.status(7), 0);
    }

    private static void hangNoneAtAll() {
        OneHeavyLoad x = start();
        x.ask(1, 99);
        x.road(0, 1, 1, 0, 99, 0);
        x.road(0, 1, 60, 0, 99, 0);
        x.road(1, 2, 1, 0, 99, 0);
        x.bridge(0, 0, 8, 99, 999);
        x.bridge(2, 0, 8, 99, 999);
        due("35: none at all is greater than any COIN", x.hang(0, 0, 0, 2), 1);
        x.road(1, 2, 59, 0, 99, 0);
        due("35: a mile more", x.hang(0, 0, 0, 2), 0);
        x.shut(3, true);
        x.road(1, 2, 60, 0, 99, 0);
        due("35: the same, the first", x.hang(0, 0, 0, 2), 0);
        x.stand(0, 1, true);
        due("35: FALLEN already, so the other", x.hang(0, 0, 0, 2), 1);
        x.stand(1, 1, true);
        due("35: all FALLEN, the first", x.hang(0, 0, 0, 2), 0);
        due("44: they have FALLEN still", x.status(7), 2);
        x.shut(4, true);
        due("35: no WAY now", x.hang(0, 0, 0, 2), -5);
    }

    private static void hangWhatCostsMore() {
        OneHeavyLoad x = start();
        x.part(5, 50);
        x.road(0, 1, 10, 0, 99, 0);
        x.road(0, 1, 20, 0, 99, 0);
        x.bridge(1, 0, 8, 99, 999);
        x.bridge(0, 0, 8, 20, 59);
        x.prop(1, 1, 19);
        due("35: by COIN with PROPS, not by miles", x.hang(0, 0, 0, 1), 1);
        x.prop(1, 1, 20);
        due("35: the same with either", x.hang(0, 0, 0, 1), 0);
        x.prop(1, 1, 21);
        due("35: its PROP is too dear to be missed", x.hang(0, 0, 0, 1), 0);
        due("35: a PART sent, no PROP", x.hang(0, 1, 0, 1), 1);
    }

    // ---- fewest, most

    /** The load less what is sent must be 2 at most: the heaviest load that each set is the answer to, and one more. */
    private static void fewestThenAsBits() {
        OneHeavyLoad x = new OneHeavyLoad();
        x.waggon(2, 1, 0);
        x.road(0, 1, 10, 0, 99, 0);
        for (int weight : new int[] {10, 20, 20, 30, 34}) {
            x.part(weight, 99);
        }
        x.bridge(0, 0, 0, 1, 999);
        int[] heaviest = {2, 12, 22, 32, 36, 42, 52, 56, 66, 72, 76, 86, 96, 106, 116};
        int[] sets = {0, 1, 2, 8, 16, 6, 10, 18, 24, 14, 22, 26, 27, 30, 31};
        for (int i = 0; i < heaviest.length; i++) {
            x.ask(0, heaviest[i]);
            due("36: of a load of " + heaviest[i], x.fewest(0, 0, 1), sets[i]);
            x.ask(0, heaviest[i] + 1);
            due("36: of one more", x.fewest(0, 0, 1), i + 1 < sets.length ? sets[i + 1] : -5);
        }
    }

    private static void fewestOfNone() {
        OneHeavyLoad x = start();
        x.road(0, 1, 10, 0, 99, 0);
        due("36: no PARTS, and none needed", x.fewest(0, 0, 1), 0);
        x.bridge(0, 0, 8, 19, 999);
        due("36: no PARTS, and one needed", x.fewest(0, 0, 1), -5);
        x.part(5, 99);
        due("36: a PART, whatever it costs", x.fewest(0, 0, 1), 1);
        x.ask(0, 101);
        due("36: too heavy by one", x.fewest(0, 0, 1), -5);
        due("36: to the same PLACE", x.fewest(0, 1, 1), 0);
    }

    private static void mostEveryWeight() {
        for (int axle = 1; axle <= 99; axle++) {
            OneHeavyLoad x = new OneHeavyLoad();
            x.waggon(8, 1, 0);
            x.waggon(5, 1, 0);
            x.waggon(10, 1, 1);
            x.road(0, 1, 10, 0, 99, 0);
            x.bridge(0, 0, 0, axle, 999);
            due("37: 8 axles of " + axle, x.most(0, 0, 1), 8 * axle);
            due("37: 5 axles of " + axle, x.most(1, 0, 1), 5 * axle);
            due("37: 10 axles of " + axle + ", less a TARE of 1", x.most(2, 0, 1), Math.min(900, 10 * axle - 1));
        }
        for (int axle : new int[] {1, 2, 3, 50, 89, 90, 98, 99}) {
            OneHeavyLoad x = new OneHeavyLoad();
            x.waggon(9, 1, 0);
            x.waggon(9, 1, 5);
            x.waggon(2, 1, 99);
            x.road(0, 1, 10, 0, 99, 0);
            x.bridge(0, 0, 0, axle, 999);
            due("37: 9 axles of " + axle, x.most(0, 0, 1), Math.min(900, 9 * axle));
            due("37: less a TARE of 5", x.most(1, 0, 1), Math.min(900, 9 * axle - 5));
            due("37: 2 axles, less a TARE of 99", x.most(2, 0, 1), 2 * axle < 99 ? -5 : 2 * axle - 99);
            due("37: the load is as it was", x.ask(0, 100), 100);
        }
        for (int all = 1; all <= 999; all += 37) {
            OneHeavyLoad x = new OneHeavyLoad();
            x.waggon(12, 1, 0);
            x.road(0, 1, 10, 0, 99, 0);
            x.bridge(0, 3, 60, 99, all);
            due("37: 12 axles on what bears " + all, x.most(0, 0, 1), Math.min(900, all / 12 * 12));
        }
    }

    private static void mostAtItsEnds() {
        OneHeavyLoad x = start();
        x.part(99, 0);
        x.road(0, 1, 10, 9, 99, 0);
        due("37: no BRIDGE, so the heaviest", x.most(0, 0, 1), 900);
        x.bridge(0, 5, 8, 99, 999);
        due("37: a FORD bears no axle, so nothing", x.most(0, 0, 1), 0);
        x.ask(2, 1);
        due("37: with FROST, half of it", x.most(0, 0, 1), 245);
        x.stand(0, 1, true);
        due("37: FALLEN, and nothing weighs nothing", x.most(0, 0, 1), 0);
        x.shut(0, true);
        due("37: not even 0", x.most(0, 0, 1), -5);
        due("37: the load is as it was", x.ask(0, 900), 100);
        x.shut(0, false);
        due("37: whatever the load is", x.most(0, 0, 1), 0);
        due("37: it is as it was", x.ask(0, 900), 900);
        x.waggon(2, 1, 1);
        due("37: not even 0", x.most(1, 0, 1), -5);
        due("37: it is as it was", x.ask(0, 900), 900);
    }

    // ---- frost

    /** 60 coin without FROST, 20 with it. */
    private static OneHeavyLoad ford() {
        OneHeavyLoad x = new OneHeavyLoad();
        x.waggon(6, 3, 0);
        x.road(0, 1, 10, 0, 99, 0);
        x.road(0, 1, 30, 0, 99, 0);
        x.bridge(0, 5, 20, 40, 300);
        return x;
    }

    private static void frostDays() {
        OneHeavyLoad x = ford();
        long[] half = {60, 410, 3150, 26750, 243750, 2318750, 22593750};
        long[] free = {60, 400, 3000, 25000, 225000, 2125000, 20625000};
        for (int d = 0; d <= 6; d++) {
            due("38: " + d + " DAYS, waiting for 1", x.frost(0, 0, 0, 1, d, 5, 1), half[d]);
            due("38: " + d + " DAYS, waiting for nothing", x.frost(0, 0, 0, 1, d, 5, 0), free[d]);
        }
        due("38: BAD", x.frost(0, 0, 0, 1, 7, 5, 1), -2);
        due("38: BAD", x.frost(0, 0, 0, 1, -1, 5, 1), -2);
    }

    private static void frostChances() {
        OneHeavyLoad x = ford();
        for (int chance = 0; chance <= 10; chance++) {
            due("38: no DAY left", x.frost(0, 0, 0, 1, 0, chance, 0), 60);
            due("38: a DAY, chance " + chance, x.frost(0, 0, 0, 1, 1, chance, 0), 600 - 40 * chance);
            // Waiting pays as long as it costs less than what is saved by chance.
            due("38: just as dear", x.frost(0, 0, 0, 1, 1, chance, 4 * chance), 600);
            due("38: too dear", x.frost(0, 0, 0, 1, 1, chance, 4 * chance + 1), 600);
            due("38: dearest", x.frost(0, 0, 0, 1, 6, chance, 999), 60000000);
            if (chance > 0) {
                due("38: a coin less", x.frost(0, 0, 0, 1, 1, chance, 4 * chance - 1), 590);
            }
        }
        due("38: sure FROST", x.frost(0, 0, 0, 1, 6, 10, 0), 20000000);
        due("38: sure FROST, waiting for 39", x.frost(0, 0, 0, 1, 6, 10, 39), 59000000);
        due("38: no chance", x.frost(0, 0, 0, 1, 6, 0, 0), 60000000);
        due("38: BAD", x.frost(0, 0, 0, 1, 1, 11, 0), -2);
        due("38: BAD", x.frost(0, 0, 0, 1, 1, 0, 1000), -2);
    }

    private static void frostThatHelpsNothing() {
        OneHeavyLoad x = ford();
        x.part(1, 3);
        x.stand(0, 1, true);
        due("38: the FORD has FALLEN", x.frost(0, 0, 0, 1, 3, 10, 0), 60000);
        due("38: with PARTS", x.frost(0, 1, 0, 1, 3, 10, 0), 63000);
        x.stand(0, 1, false);
        due("38: PARTS either way", x.frost(0, 1, 0, 1, 3, 10, 0), 23000);
        x.bridge(0, 0, 20, 1, 1);
        due("38: another BRIDGE is too weak", x.frost(0, 0, 0, 1, 3, 10, 0), 60000);
        due("38: one PLACE", x.frost(0, 0, 5, 5, 6, 10, 0), 0);
        x.shut(1, true);
        due("38: no WAY either way", x.frost(0, 0, 0, 1, 3, 10, 0), -5);
    }

    private static void frostNow() {
        OneHeavyLoad x = ford();
        for (int now = 0; now <= 1; now++) {
            x.ask(2, now);
            due("38: not frozen, whatever is now", x.frost(0, 0, 0, 1, 0, 0, 0), 60);
            due("38: FROST is as it was", x.ask(2, now), now);
            x.shut(1, true);
            due("38: STUCK, whatever is now", x.frost(0, 0, 0, 1, 0, 10, 0), -5);
            due("38: FROST is as it was", x.ask(2, now), now);
            x.shut(1, false);
        }
    }

    private static void frostIsLong() {
        OneHeavyLoad x = new OneHeavyLoad();
        x.waggon(2, 1, 99);
        x.ask(0, 900);
        x.ask(1, 99);
        for (int place = 0; place < 15; place++) {
            x.road(place, place + 1, 60, 9, 99, 0);
        }
        due("38: more than an int holds", x.frost(0, 0, 0, 15, 6, 10, 0), 15L * 273240 * 1000000);
        due("38: more than an int holds", x.frost(0, 0, 0, 1, 4, 3, 999), 273240L * 10000);
    }
}
