/** Promises 9 to 16 and 20 to 23: road, bridge, prop, waggon, part, ask, stand, shut, roadOf, bridgeOf, bears, length. */
public final class LandTest {
    private static final Check CHECK = new Check("LandTest");
    private static final int MIN = Integer.MIN_VALUE;
    private static final int MAX = Integer.MAX_VALUE;

    public static void main(String[] args) {
        roads();
        bridges();
        props();
        waggons();
        parts();
        ask();
        stand();
        shut();
        bears();
        CHECK.end();
    }

    private static void due(String call, long got, long want) {
        CHECK.due(call, got, want);
    }

    private static void roads() {
        OneHeavyLoad x = new OneHeavyLoad();
        due("9: least", x.road(0, 15, 1, 0, 1, 0), 0);
        due("9: greatest", x.road(15, 0, 60, 9, 99, 15), 1);
        int[] want = {15, 0, 60, 9, 99, 15, 0};
        for (int what = 0; what <= 6; what++) {
            due("20: roadOf", x.roadOf(1, what), want[what]);
        }
        int[] good = {1, 2, 10, 1, 50, 3};
        int[][] wrong = {{-1, 16, MIN}, {-1, 16, 1, MAX}, {0, 61, MIN}, {-1, 10, MAX}, {0, 100, MIN}, {-1, 16, MAX}};
        int refused = 0;
        for (int k = 0; k < 6; k++) {
            for (int v : wrong[k]) {
                int[] a = good.clone();
                a[k] = v;
                due("9: BAD", x.road(a[0], a[1], a[2], a[3], a[4], a[5]), -2);
                refused++;
            }
        }
        due("9: refusals", x.status(12), refused);
        for (int r = 2; r < 24; r++) {
            due("9: road", x.road(1, 2, 10, 1, 50, 3), r);
        }
        due("9: FULL", x.road(1, 2, 10, 1, 50, 3), -6);
        due("9: BAD before FULL", x.road(1, 1, 10, 1, 50, 3), -2);
        due("9: roads", x.status(0), 24);
        due("44: FULL", x.status(16), 1);
        due("20: BAD road", x.roadOf(24, 0), -2);
        due("20: BAD road", x.roadOf(-1, 0), -2);
        due("20: BAD what", x.roadOf(0, 7), -2);
        due("20: BAD what", x.roadOf(0, -1), -2);
    }

    private static void bridges() {
        OneHeavyLoad x = new OneHeavyLoad();
        due("10: no road", x.bridge(0, 0, 0, 1, 1), -2);
        x.road(0, 1, 1, 0, 1, 0);
        x.road(0, 1, 1, 0, 1, 0);
        due("10: least", x.bridge(0, 0, 0, 1, 1), 0);
        due("10: greatest", x.bridge(1, 5, 60, 99, 999), 1);
        int[] want = {1, 5, 60, 99, 999, 0, 0, 0, 0, 0};
        for (int what = 0; what <= 9; what++) {
            due("21: bridgeOf", x.bridgeOf(1, what), want[what]);
        }
        int[] good = {1, 2, 10, 10, 10};
        int[][] wrong = {{-1, 2, MIN, MAX}, {-1, 6, MAX}, {-1, 61, MIN}, {0, 100, MIN}, {0, 1000, MAX}};
        for (int k = 0; k < 5; k++) {
            for (int v : wrong[k]) {
                int[] a = good.clone();
                a[k] = v;
                due("10: BAD", x.bridge(a[0], a[1], a[2], a[3], a[4]), -2);
            }
        }
        for (int b = 2; b < 16; b++) {
            due("10: bridge", x.bridge(1, 2, 10, 10, 10), b);
        }
        due("10: FULL", x.bridge(1, 2, 10, 10, 10), -6);
        due("10: BAD before FULL", x.bridge(2, 2, 10, 10, 10), -2);
        due("21: BAD bridge", x.bridgeOf(16, 0), -2);
        due("21: BAD bridge", x.bridgeOf(-1, 0), -2);
        due("21: BAD what", x.bridgeOf(0, 10), -2);
        due("21: BAD what", x.bridgeOf(0, -1), -2);
        due("44: bridges", x.status(1), 16);
    }

    private static void props() {
        OneHeavyLoad x = new OneHeavyLoad();
        x.road(0, 1, 1, 0, 1, 0);
        due("11: no bridge", x.prop(0, 1, 1), -2);
        x.bridge(0, 3, 0, 1, 1);
        due("11: prop, of IRON too", x.prop(0, 999, 998), 1);
        due("11: MORE", x.bridgeOf(0, 5), 999);
        due("11: COIN", x.bridgeOf(0, 6), 998);
        due("11: BAD", x.prop(0, 1000, 0), -2);
        due("11: BAD", x.prop(0, -1, 0), -2);
        due("11: BAD", x.prop(0, 0, 1000), -2);
        due("11: BAD", x.prop(0, 0, -1), -2);
        due("11: BAD", x.prop(-1, 0, 0), -2);
        due("11: MORE still", x.bridgeOf(0, 5), 999);
        due("11: none", x.prop(0, 0, 0), 1);
        due("11: MORE", x.bridgeOf(0, 5), 0);
    }

    private static void waggons() {
        OneHeavyLoad x = new OneHeavyLoad();
        due("12: waggon", x.waggon(2, 1, 0), 0);
        due("12: waggon", x.waggon(12, 9, 99), 1);
        due("23: length", x.length(0), 5);
        due("23: length", x.length(1), 103);
        due("23: BAD", x.length(2), -2);
        due("23: BAD", x.length(-1), -2);
        int[][] wrong = {{1, 1, 0}, {13, 1, 0}, {2, 0, 0}, {2, 10, 0}, {2, 1, -1}, {2, 1, 100}};
        for (int[] a : wrong) {
            due("12: BAD", x.waggon(a[0], a[1], a[2]), -2);
        }
        for (int w = 2; w < 5; w++) {
            due("12: waggon", x.waggon(3, 3, 3), w);
        }
        due("12: FULL", x.waggon(3, 3, 3), -6);
        due("12: BAD before FULL", x.waggon(1, 3, 3), -2);
        due("44: waggons", x.status(2), 5);
    }

    private static void parts() {
        OneHeavyLoad x = new OneHeavyLoad();
        due("13: part", x.part(1, 0), 0);
        due("13: part", x.part(99, 99), 1);
        due("13: BAD", x.part(0, 0), -2);
        due("13: BAD", x.part(100, 0), -2);
        due("13: BAD", x.part(1, -1), -2);
        due("13: BAD", x.part(1, 100), -2);
        for (int p = 2; p < 5; p++) {
            due("13: part", x.part(5, 5), p);
        }
        due("13: FULL", x.part(5, 5), -6);
        due("13: BAD before FULL", x.part(0, 5), -2);
        due("44: parts", x.status(3), 5);
    }

    private static void ask() {
        OneHeavyLoad x = new OneHeavyLoad();
        due("14: weight", x.ask(0, 900), 100);
        due("14: weight", x.ask(0, 0), 900);
        due("14: BAD weight", x.ask(0, 901), -2);
        due("14: BAD weight", x.ask(0, -1), -2);
        due("14: weight", x.ask(0, 5), 0);
        due("14: mile", x.ask(1, 99), 2);
        due("14: BAD mile", x.ask(1, 100), -2);
        due("14: BAD mile", x.ask(1, -1), -2);
        due("14: mile", x.ask(1, 0), 99);
        due("14: frost", x.ask(2, 1), 0);
        due("14: BAD frost", x.ask(2, 2), -2);
        due("14: BAD frost", x.ask(2, -1), -2);
        due("14: frost", x.ask(2, 0), 1);
        due("14: BAD what", x.ask(3, 0), -2);
        due("14: BAD what", x.ask(-1, 0), -2);
        due("14: BAD what", x.ask(MIN, 0), -2);
    }

    private static void stand() {
        OneHeavyLoad x = new OneHeavyLoad();
        x.road(0, 1, 1, 0, 1, 0);
        due("15: no bridge", x.stand(0, 0, true), -2);
        x.bridge(0, 0, 0, 1, 1);
        x.bridge(0, 3, 0, 1, 1);
        for (int what = 0; what <= 2; what++) {
            due("15: not so", x.stand(0, what, false), 0);
            due("15: so", x.stand(0, what, true), 1);
            due("15: so already", x.stand(0, what, true), 0);
            due("21: so", x.bridgeOf(0, 7 + what), 1);
            if (what < 2) {
                due("44: bridges that are so", x.status(6 + what), 1);
            }
            due("15: not so again", x.stand(0, what, false), 1);
            due("21: not so", x.bridgeOf(0, 7 + what), 0);
        }
        due("15: STUCK", x.stand(1, 0, true), -5);
        due("15: IRON isn't propped, and needn't be", x.stand(1, 0, false), 0);
        due("15: IRON may fall", x.stand(1, 1, true), 1);
        due("15: IRON asked about", x.stand(1, 2, true), 1);
        due("15: BAD what before STUCK", x.stand(1, 3, true), -2);
        due("15: BAD what", x.stand(1, -1, true), -2);
        due("15: BAD bridge", x.stand(2, 0, true), -2);
        due("15: BAD bridge", x.stand(-1, 0, true), -2);
        due("44: STUCK", x.status(15), 1);
    }

    private static void shut() {
        OneHeavyLoad x = new OneHeavyLoad();
        due("16: BAD", x.shut(0, true), -2);
        x.road(0, 1, 1, 0, 99, 0);
        x.waggon(2, 1, 0);
        due("16: open", x.shut(0, false), 0);
        due("16: goes", x.goes(0, 0, 0, 0), 1);
        due("16: shut", x.shut(0, true), 1);
        due("16: shut already", x.shut(0, true), 0);
        due("20: shut", x.roadOf(0, 6), 1);
        due("16: doesn't go", x.goes(0, 0, 0, 0), 0);
        due("16: open again", x.shut(0, false), 1);
        due("16: goes", x.goes(0, 0, 0, 0), 1);
        due("16: BAD", x.shut(1, true), -2);
        due("16: BAD", x.shut(-1, true), -2);
    }

    private static void bears() {
        OneHeavyLoad x = new OneHeavyLoad();
        x.road(0, 1, 1, 0, 1, 0);
        int[] axle = {21, 21, 26, 21, 10, 0};
        int[] all = {59, 64, 64, 59, 29, 0};
        for (int kind = 0; kind <= 5; kind++) {
            x.bridge(0, kind, 5, 21, 59);
            x.prop(kind, 7, 1);
            due("22: axle of " + kind, x.bears(kind, false), axle[kind]);
            due("22: all of " + kind, x.bears(kind, true), all[kind]);
            due("22: propped", x.stand(kind, 0, true), kind == 3 ? -5 : 1);
            due("22: propped axle of " + kind, x.bears(kind, false), axle[kind]);
            due("22: propped all of " + kind, x.bears(kind, true), kind == 3 ? all[kind] : all[kind] + 7);
        }
        x.ask(2, 1);
        due("22: ford in frost", x.bears(5, false), 10);
        due("22: ford in frost", x.bears(5, true), 36);
        x.stand(5, 2, true);
        x.stand(4, 2, true);
        due("22: ford asked about", x.bears(5, false), 21);
        due("22: ford asked about", x.bears(5, true), 66);
        due("22: unknown asked about", x.bears(4, false), 21);
        due("22: unknown asked about", x.bears(4, true), 66);
        for (int kind = 0; kind <= 5; kind++) {
            x.stand(kind, 1, true);
            due("22: fallen", x.bears(kind, false), 0);
            due("22: fallen", x.bears(kind, true), 0);
        }
        due("22: BAD", x.bears(6, true), -2);
        due("22: BAD", x.bears(-1, false), -2);
    }
}
