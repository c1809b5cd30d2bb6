/** Promises 24 to 27: loads that are nothing or just too much, spans, corners, engines, days and props at their ends. */
public final class PackEdgesTest {
    private static final Check CHECK = new Check("PackEdgesTest");

    public static void main(String[] args) {
        roundedUp();
        greatestLoad();
        zeroAtLeast();
        setsOfParts();
        strainOfEverySpan();
        holdsJustSo();
        propsJustEnough();
        kindsThatCantBePropped();
        noLoadAtAll();
        corners();
        engines();
        days();
        coin();
        manyProps();
        whatStopsARoad();
        CHECK.end();
    }

    private static void due(String call, long got, long want) {
        CHECK.due(call, got, want);
    }

    private static void roundedUp() {
        for (int axles = 2; axles <= 12; axles++) {
            OneHeavyLoad x = new OneHeavyLoad();
            x.waggon(axles, 1, 0);
            int[] weights = {0, 1, axles - 1, axles, axles + 1, 2 * axles, 2 * axles + 1, 70 * axles, 70 * axles + 1};
            int[] loads = {0, 1, 1, 1, 2, 2, 3, 70, 71};
            for (int i = 0; i < weights.length; i++) {
                x.ask(0, weights[i]);
                due("24: " + weights[i] + " by " + axles + ", rounded up", x.axle(0, 0), loads[i]);
            }
        }
    }

    private static void greatestLoad() {
        OneHeavyLoad x = new OneHeavyLoad();
        x.waggon(2, 1, 99);
        x.waggon(12, 1, 99);
        x.waggon(2, 1, 0);
        x.ask(0, 900);
        due("24: TARE and WEIGHT together", x.axle(0, 0), 500);
        due("24: by 12", x.axle(1, 0), 84);
        x.ask(0, 0);
        due("24: TARE alone", x.axle(0, 0), 50);
        due("24: nothing at all", x.axle(2, 0), 0);
    }

    private static void zeroAtLeast() {
        OneHeavyLoad x = new OneHeavyLoad();
        x.waggon(2, 1, 10);
        x.waggon(2, 1, 0);
        x.part(20, 0);
        x.part(99, 0);
        int[] weights = {0, 9, 10, 11, 12, 13};
        int[] loads = {0, 0, 0, 1, 1, 2};
        for (int i = 0; i < weights.length; i++) {
            x.ask(0, weights[i]);
            due("24: 10 and " + weights[i] + " less 20", x.axle(0, 1), loads[i]);
        }
        x.ask(0, 20);
        due("24: less just as much", x.axle(1, 1), 0);
        due("24: less much more", x.axle(1, 3), 0);
    }

    private static void setsOfParts() {
        OneHeavyLoad x = new OneHeavyLoad();
        x.waggon(2, 1, 0);
        x.ask(0, 900);
        int[] weights = {2, 4, 8, 16, 32};
        for (int weight : weights) {
            x.part(weight, 0);
        }
        for (int set = 0; set < 32; set++) {
            due("24: less the PARTS of set " + set, x.axle(0, set), 450 - set);
        }
        due("24: a bit of no PART", x.axle(0, 32), -2);
        due("24: a bit of no PART", x.axle(0, 32 | 1), -2);
    }

    /** Lays the axles out one by one, and counts those between the first and what is no more than the span apart. */
    private static int mostOn(int axles, int space, int span) {
        int most = 0;
        for (int first = 0; first < axles; first++) {
            int on = 0;
            for (int axle = first; axle < axles; axle++) {
                on += space * axle - space * first <= span ? 1 : 0;
            }
            most = Math.max(most, on);
        }
        return most;
    }

    private static void strainOfEverySpan() {
        for (int axles = 2; axles <= 12; axles++) {
            for (int low = 0; low <= 60; low += 16) {
                OneHeavyLoad x = new OneHeavyLoad();
                x.road(0, 1, 1, 0, 1, 0);
                x.ask(0, 7 * axles);
                for (int k = 0; k < 5; k++) {
                    x.waggon(axles, 2 * k + 1, 0);
                }
                for (int span = low; span <= Math.min(60, low + 15); span++) {
                    int bridge = x.bridge(0, span % 6, span, 1, 1);
                    for (int k = 0; k < 5; k++) {
                        due("25: " + axles + " axles, space " + (2 * k + 1) + ", span " + span, x.strain(k, 0, bridge),
                                7 * mostOn(axles, 2 * k + 1, span));
                    }
                }
            }
        }
        OneHeavyLoad x = new OneHeavyLoad();
        x.road(0, 1, 1, 0, 1, 0);
        x.waggon(12, 5, 99);
        x.waggon(2, 9, 99);
        x.ask(0, 900);
        int[] spans = {0, 8, 9, 54, 55, 60};
        int[] heavy = {84, 168, 168, 924, 1008, 1008};
        int[] wide = {500, 500, 1000, 1000, 1000, 1000};
        for (int i = 0; i < spans.length; i++) {
            x.bridge(0, 0, spans[i], 1, 1);
            due("25: all 12, span " + spans[i], x.strain(0, 0, i), heavy[i]);
            due("25: at least one, span " + spans[i], x.strain(1, 0, i), wide[i]);
        }
    }

    private static OneHeavyLoad one(int kind, int axle, int all) {
        OneHeavyLoad x = new OneHeavyLoad();
        x.road(0, 1, 10, 0, 99, 0);
        x.waggon(5, 4, 0);
        x.bridge(0, kind, 8, axle, all);
        return x;
    }

    /** The AXLELOAD is 20 and the STRAIN 60. */
    private static void holdsJustSo() {
        due("26: both just so", one(0, 20, 60).needs(0, 0, 0), 0);
        due("26: AXLE one too few", one(0, 19, 60).needs(0, 0, 0), 2);
        due("26: ALL one too few", one(0, 20, 59).needs(0, 0, 0), 2);
        due("26: STONE just so", one(1, 20, 55).needs(0, 0, 0), 0);
        due("26: STONE one too few", one(1, 20, 54).needs(0, 0, 0), 2);
        due("26: STONE, AXLE one too few", one(1, 19, 55).needs(0, 0, 0), 2);
        due("26: ARCHES just so", one(2, 15, 55).needs(0, 0, 0), 0);
        due("26: ARCHES, AXLE one too few", one(2, 14, 55).needs(0, 0, 0), 2);
        due("26: ARCHES, ALL one too few", one(2, 15, 54).needs(0, 0, 0), 2);
        due("26: IRON just so", one(3, 20, 60).needs(0, 0, 0), 0);
        due("26: IRON one too few", one(3, 20, 59).needs(0, 0, 0), 2);
        due("26: UNKNOWN just so", one(4, 40, 120).needs(0, 0, 0), 0);
        due("26: UNKNOWN, cut to just so", one(4, 41, 121).needs(0, 0, 0), 0);
        due("26: UNKNOWN, AXLE one too few", one(4, 39, 120).needs(0, 0, 0), 2);
        due("26: UNKNOWN, ALL one too few", one(4, 40, 119).needs(0, 0, 0), 2);
        due("26: FORD without FROST", one(5, 99, 999).needs(0, 0, 0), 2);
        OneHeavyLoad x = one(5, 40, 120);
        x.ask(2, 1);
        due("26: FORD just so", x.needs(0, 0, 0), 0);
        x.ask(0, 101);
        due("26: one heavier", x.needs(0, 0, 0), 2);
    }

    private static void propsJustEnough() {
        // Each of them bears 50 in all without a PROP; IRON (3) can't have one.
        int[] all = {50, 46, 46, 0, 100, 100};
        for (int kind : new int[] {0, 1, 2, 4, 5}) {
            OneHeavyLoad x = one(kind, 99, all[kind]);
            x.ask(2, 1);
            x.prop(0, 9, 0);
            due("26: MORE one too few, kind " + kind, x.needs(0, 0, 0), 2);
            x.prop(0, 10, 0);
            due("26: MORE just enough, kind " + kind, x.needs(0, 0, 0), 1);
            x.stand(0, 0, true);
            due("26: PROPPED, kind " + kind, x.needs(0, 0, 0), 0);
            x.prop(0, 9, 0);
            due("26: PROPPED, one too few, kind " + kind, x.needs(0, 0, 0), 2);
            x.prop(0, 999, 0);
            x.stand(0, 1, true);
            due("26: PROPPED and FALLEN, kind " + kind, x.needs(0, 0, 0), 2);
            x.stand(0, 0, false);
            due("26: FALLEN, no PROP helps, kind " + kind, x.needs(0, 0, 0), 2);
        }
        OneHeavyLoad x = one(0, 19, 999);
        x.prop(0, 999, 0);
        due("26: no PROP helps an axle", x.needs(0, 0, 0), 2);
        OneHeavyLoad holds = one(0, 20, 60);
        holds.prop(0, 999, 5);
        due("26: it HOLDS without its PROP", holds.needs(0, 0, 0), 0);
    }

    private static void kindsThatCantBePropped() {
        OneHeavyLoad x = one(3, 20, 59);
        x.prop(0, 999, 0);
        due("26: IRON can't be PROPPED", x.needs(0, 0, 0), 2);
        OneHeavyLoad y = one(5, 99, 999);
        y.prop(0, 999, 0);
        due("26: a PROP bears no axle on a FORD without FROST", y.needs(0, 0, 0), 2);
        y.stand(0, 0, true);
        due("26: nor if it stands", y.needs(0, 0, 0), 2);
    }

    private static void noLoadAtAll() {
        for (int kind = 0; kind <= 5; kind++) {
            OneHeavyLoad x = one(kind, 1, 1);
            x.ask(0, 0);
            due("25: no STRAIN", x.strain(0, 0, 0), 0);
            due("26: 0 is no more than 0, kind " + kind, x.needs(0, 0, 0), 0);
            x.stand(0, 1, true);
            due("26: FALLEN, 0 is no more than 0, kind " + kind, x.needs(0, 0, 0), 0);
            x.stand(0, 1, false);
            x.ask(0, 1);
            due("26: 1 is more than all bear, kind " + kind, x.needs(0, 0, 0), 2);
        }
    }

    /** LENGTH 5 is the least, 94 the greatest that any TURN lets by, 103 the greatest. */
    private static void corners() {
        OneHeavyLoad x = new OneHeavyLoad();
        x.waggon(2, 1, 0);
        x.waggon(11, 9, 0);
        x.waggon(12, 9, 0);
        int[] turns = {1, 4, 5, 6, 93, 94, 95, 99};
        int[] shortest = {0, 0, 1, 1, 1, 1, 1, 1};
        int[] longer = {0, 0, 0, 0, 0, 1, 1, 1};
        for (int i = 0; i < turns.length; i++) {
            x.road(0, 1, 1, 0, turns[i], 0);
            due("27: LENGTH 5, TURN " + turns[i], x.goes(0, 0, i, 0), shortest[i]);
            due("27: LENGTH 94, TURN " + turns[i], x.goes(1, 0, i, 0), longer[i]);
            due("27: LENGTH 103, TURN " + turns[i], x.goes(2, 0, i, 0), 0);
        }
    }

    private static void engines() {
        OneHeavyLoad x = new OneHeavyLoad();
        x.waggon(2, 1, 0);
        x.waggon(2, 1, 99);
        int[][] rows = {{0, 900, 1}, {1, 198, 1}, {1, 199, 2}, {1, 200, 2}, {1, 398, 2}, {1, 399, 3}, {1, 400, 3}, {9, 0, 1},
            {9, 22, 1}, {9, 24, 2}, {9, 44, 2}, {9, 46, 3}, {9, 900, 41}};
        int road = 0;
        for (int[] row : rows) {
            x.road(0, 1, 10, row[0], 99, 0);
            x.ask(0, row[1]);
            due("27: ENGINES, RISE " + row[0] + ", load " + row[1], x.goes(0, 0, road, 3), row[2]);
            due("27: COIN by ENGINES", x.goes(0, 0, road, 1), 20 * row[2]);
            road++;
        }
        x.ask(0, 900);
        due("27: the greatest", x.goes(1, 0, road - 1, 3), 46);
    }

    private static void days() {
        OneHeavyLoad x = new OneHeavyLoad();
        x.waggon(2, 1, 0);
        int[] miles = {1, 9, 10, 11, 19, 20, 21, 50, 51, 59, 60};
        int[] days = {1, 1, 1, 2, 2, 2, 3, 5, 6, 6, 6};
        for (int i = 0; i < miles.length; i++) {
            x.road(0, 1, miles[i], 9, 99, 0);
            due("27: DAYS of " + miles[i] + " miles", x.goes(0, 0, i, 2), days[i]);
        }
    }

    private static void coin() {
        OneHeavyLoad x = new OneHeavyLoad();
        x.waggon(2, 1, 99);
        x.road(0, 1, 60, 9, 99, 0);
        x.road(0, 1, 1, 0, 99, 0);
        x.ask(0, 900);
        int[] miles = {0, 1, 99};
        for (int mile : miles) {
            x.ask(1, mile);
            due("27: the greatest COIN, mile " + mile, x.goes(0, 0, 0, 1), mile * 60 * 46);
            due("27: the least COIN, mile " + mile, x.goes(0, 0, 1, 1), mile);
        }
        x.ask(1, 0);
        x.bridge(1, 0, 0, 99, 49);
        x.prop(0, 1, 999);
        x.ask(0, 1);
        due("27: a PROP, when a mile is for nothing", x.goes(0, 0, 1, 1), 999);
        x.prop(0, 0, 999);
        due("27: STUCK", x.goes(0, 0, 1, 1), -5);
    }

    private static void manyProps() {
        OneHeavyLoad x = new OneHeavyLoad();
        x.waggon(5, 4, 0);
        x.road(0, 1, 60, 0, 99, 0);
        x.road(0, 1, 60, 0, 99, 0);
        for (int bridge = 0; bridge < 16; bridge++) {
            due("27: PROPS", x.goes(0, 0, 0, 4), bridge);
            due("27: DAYS", x.goes(0, 0, 0, 2), 6 + 3 * bridge);
            due("27: COIN", x.goes(0, 0, 0, 1), 120 + 999 * bridge);
            x.bridge(0, 0, 8, 20, 59);
            x.prop(bridge, 1, 999);
        }
        due("27: 16 PROPS", x.goes(0, 0, 0, 4), 16);
        due("27: their COIN", x.goes(0, 0, 0, 1), 120 + 16 * 999);
        due("27: the other ROAD needs none", x.goes(0, 0, 1, 4), 0);
        due("27: none stands by being asked for", x.status(6), 0);
        x.stand(15, 1, true);
        due("27: one has FALLEN, 16 or not", x.goes(0, 0, 0, 0), 0);
        due("27: STUCK", x.goes(0, 0, 0, 4), -5);
    }

    private static void whatStopsARoad() {
        OneHeavyLoad x = one(0, 20, 60);
        due("27: it GOES", x.goes(0, 0, 0, 0), 1);
        x.shut(0, true);
        due("27: shut", x.goes(0, 0, 0, 0), 0);
        due("27: ENGINES of it", x.goes(0, 0, 0, 3), 1);
        x.shut(0, false);
        x.ask(0, 101);
        due("27: one heavier", x.goes(0, 0, 0, 0), 0);
        x.ask(0, 100);
        x.part(1, 0);
        due("27: a PART sent", x.goes(0, 1, 0, 0), 1);
        x.bridge(0, 0, 8, 20, 59);
        due("27: the second BRIDGE NEEDS 2", x.goes(0, 0, 0, 0), 0);
        x.prop(1, 1, 7);
        due("27: the second BRIDGE NEEDS 1", x.goes(0, 0, 0, 0), 1);
        due("27: its PROP", x.goes(0, 0, 0, 1), 27);
        x.bridge(0, 3, 8, 20, 59);
        due("27: the third NEEDS 2", x.goes(0, 0, 0, 0), 0);
    }
}
