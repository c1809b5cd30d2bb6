/** Promises 9 to 16 and 20 to 23: the least and the greatest of everything, full, cut halves and tenths. */
public final class LandEdgesTest {
    private static final Check CHECK = new Check("LandEdgesTest");

    public static void main(String[] args) {
        roadNumbers();
        unlikePlaces();
        bridgeNumbers();
        everyRoadHasRoom();
        props();
        waggonNumbers();
        partNumbers();
        settings();
        standingTwice();
        shuttingTwice();
        tenths();
        halves();
        fords();
        propped();
        fallen();
        CHECK.end();
    }

    private static void due(String call, long got, long want) {
        CHECK.due(call, got, want);
    }

    private static void roadNumbers() {
        OneHeavyLoad x = new OneHeavyLoad();
        int[][] all = {{0, 1, 1, 0, 1, 0}, {15, 14, 60, 9, 99, 15}, {0, 15, 1, 9, 1, 15}, {15, 0, 60, 0, 99, 0}};
        for (int n = 0; n < 24; n++) {
            int[] a = all[n % 4];
            due("9: ROAD " + n, x.road(a[0], a[1], a[2], a[3], a[4], a[5]), n);
            due("44: ROADS", x.status(0), n + 1);
        }
        due("9: FULL", x.road(0, 1, 1, 0, 1, 0), -6);
        for (int n = 0; n < 24; n++) {
            for (int what = 0; what <= 5; what++) {
                due("20: roadOf(" + n + ", " + what + ")", x.roadOf(n, what), all[n % 4][what]);
            }
            due("20: open at first", x.roadOf(n, 6), 0);
        }
        due("20: no ROAD 24", x.roadOf(24, 0), -2);
        due("44: ROADS", x.status(0), 24);
        due("44: FULL", x.status(16), 1);
    }

    private static void unlikePlaces() {
        OneHeavyLoad x = new OneHeavyLoad();
        for (int place = 0; place <= 15; place++) {
            due("9: two unlike PLACES", x.road(place, place, 1, 0, 1, 0), -2);
            due("9: beside it", x.road(place, place ^ 1, 1, 0, 1, 0), place);
        }
        due("44: BAD", x.status(12), 16);
    }

    private static void bridgeNumbers() {
        OneHeavyLoad x = Lands.full();
        OneHeavyLoad y = new OneHeavyLoad();
        y.road(0, 1, 1, 0, 1, 0);
        int[][] all = {{0, 0, 0, 1, 1}, {0, 5, 60, 99, 999}};
        for (int n = 0; n < 16; n++) {
            int[] a = all[n % 2];
            due("10: BRIDGE " + n, y.bridge(a[0], a[1], a[2], a[3], a[4]), n);
            due("44: BRIDGES", y.status(1), n + 1);
        }
        due("10: FULL", y.bridge(0, 0, 0, 1, 1), -6);
        for (int n = 0; n < 16; n++) {
            for (int what = 0; what <= 9; what++) {
                due("21: bridgeOf(" + n + ", " + what + ")", y.bridgeOf(n, what), what < 5 ? all[n % 2][what] : 0);
            }
        }
        due("21: no BRIDGE 16", y.bridgeOf(16, 0), -2);
        due("10: on the last ROAD, but FULL", x.bridge(23, 0, 0, 1, 1), -6);
        due("10: one behind the last ROAD", x.bridge(24, 0, 0, 1, 1), -2);
    }

    private static void everyRoadHasRoom() {
        OneHeavyLoad x = new OneHeavyLoad();
        for (int n = 0; n < 24; n++) {
            x.road(0, 1, 1, 0, 1, 0);
            if (n >= 8) {
                due("10: on the newest ROAD", x.bridge(n, 0, 0, 1, 1), n - 8);
                due("10: on one that isn't there yet", x.bridge(n + 1, 0, 0, 1, 1), -2);
                due("21: its ROAD", x.bridgeOf(n - 8, 0), n);
            }
        }
    }

    private static void props() {
        OneHeavyLoad x = Lands.full();
        for (int n = 0; n < 16; n += 5) {
            due("11: greatest", x.prop(n, 999, 999), 1);
            due("11: MORE", x.bridgeOf(n, 5), 999);
            due("11: COIN", x.bridgeOf(n, 6), 999);
            due("11: least", x.prop(n, 0, 0), 1);
            due("11: MORE", x.bridgeOf(n, 5), 0);
            due("11: COIN", x.bridgeOf(n, 6), 0);
            due("11: each by itself", x.prop(n, 3, 4), 1);
            due("11: MORE", x.bridgeOf(n, 5), 3);
            due("11: COIN", x.bridgeOf(n, 6), 4);
            due("11: it doesn't stand", x.bridgeOf(n, 7), 0);
        }
        due("11: another's MORE", x.bridgeOf(1, 5), 0);
        due("11: none of that number", x.prop(16, 1, 1), -2);
    }

    private static void waggonNumbers() {
        OneHeavyLoad x = new OneHeavyLoad();
        int[][] all = {{2, 1, 0}, {12, 9, 99}, {2, 9, 99}, {12, 1, 0}, {3, 2, 1}};
        int[] lengths = {5, 103, 13, 15, 8};
        int[] loads = {50, 17, 100, 9, 34};
        for (int n = 0; n < 5; n++) {
            due("12: WAGGON " + n, x.waggon(all[n][0], all[n][1], all[n][2]), n);
            due("44: WAGGONS", x.status(2), n + 1);
        }
        due("12: FULL", x.waggon(2, 1, 0), -6);
        for (int n = 0; n < 5; n++) {
            due("23: LENGTH", x.length(n), lengths[n]);
            due("24: AXLELOAD", x.axle(n, 0), loads[n]);
        }
        due("23: no WAGGON 5", x.length(5), -2);
        due("44: FULL", x.status(16), 1);
    }

    private static void partNumbers() {
        OneHeavyLoad x = new OneHeavyLoad();
        x.waggon(2, 1, 0);
        int[][] all = {{1, 0}, {99, 99}, {1, 99}, {99, 0}, {2, 1}};
        for (int n = 0; n < 5; n++) {
            due("24: a bit of no PART", x.axle(0, 1 << n), -2);
            due("13: PART " + n, x.part(all[n][0], all[n][1]), n);
            due("44: PARTS", x.status(3), n + 1);
        }
        due("13: FULL", x.part(1, 0), -6);
        x.ask(0, 900);
        for (int n = 0; n < 5; n++) {
            due("24: less its WEIGHT", x.axle(0, 1 << n), (900 - all[n][0] + 1) / 2);
            due("28: its COIN", x.cheapest(0, 1 << n, 0, 0), all[n][1]);
        }
        due("24: all sent", x.axle(0, 31), 349);
        due("28: their COIN", x.cheapest(0, 31, 0, 0), 199);
        due("24: a sixth bit", x.axle(0, 32), -2);
    }

    private static void settings() {
        int[] first = {100, 2, 0};
        int[] greatest = {900, 99, 1};
        for (int what = 0; what <= 2; what++) {
            OneHeavyLoad x = new OneHeavyLoad();
            due("14: at first", x.ask(what, greatest[what]), first[what]);
            due("14: one above", x.ask(what, greatest[what] + 1), -2);
            due("14: the greatest", x.ask(what, 0), greatest[what]);
            due("14: one below", x.ask(what, -1), -2);
            due("14: the least", x.ask(what, 1), 0);
            due("14: the same again", x.ask(what, 1), 1);
            for (int other = 0; other <= 2; other++) {
                due("14: another is as it was", x.ask(other, 0), other == what ? 1 : first[other]);
            }
            due("44: BAD", x.status(12), 2);
        }
    }

    private static void standingTwice() {
        OneHeavyLoad x = Lands.full();
        for (int what = 0; what <= 2; what++) {
            for (int n : new int[] {0, 2, 15 - what}) {
                if (n % 6 != 3) {
                    due("15: not so, and it was so", x.stand(n, what, false), 0);
                    due("15: so", x.stand(n, what, true), 1);
                    due("15: so, and it was so", x.stand(n, what, true), 0);
                    due("21: so", x.bridgeOf(n, 7 + what), 1);
                    due("21: one beside it", x.bridgeOf(1, 7 + what), 0);
                    due("15: not so", x.stand(n, what, false), 1);
                    due("21: not so", x.bridgeOf(n, 7 + what), 0);
                }
            }
        }
        due("44: PROPPED", x.status(6), 0);
        for (int n = 0; n < 16; n++) {
            due("15: FALLEN", x.stand(n, 1, true), 1);
            due("44: FALLEN", x.status(7), n + 1);
        }
        due("15: FALLEN may be PROPPED", x.stand(0, 0, true), 1);
        due("44: PROPPED", x.status(6), 1);
        due("44: nothing refused", x.status(12) + x.status(15), 0);
    }

    private static void shuttingTwice() {
        OneHeavyLoad x = Lands.full();
        for (int n : new int[] {0, 23}) {
            due("16: open, and it was so", x.shut(n, false), 0);
            due("16: shut", x.shut(n, true), 1);
            due("16: shut, and it was so", x.shut(n, true), 0);
            due("20: shut", x.roadOf(n, 6), 1);
            due("20: one beside it", x.roadOf(1, 6), 0);
            due("16: open", x.shut(n, false), 1);
            due("20: open", x.roadOf(n, 6), 0);
        }
        due("16: none of that number", x.shut(24, true), -2);
    }

    private static OneHeavyLoad one(int kind, int axle, int all) {
        OneHeavyLoad x = new OneHeavyLoad();
        x.road(0, 1, 1, 0, 1, 0);
        x.bridge(0, kind, 0, axle, all);
        return x;
    }

    private static void bears(String name, OneHeavyLoad x, int axle, int all) {
        due("22: " + name + ", BEARS AXLE", x.bears(0, false), axle);
        due("22: " + name + ", BEARS ALL", x.bears(0, true), all);
    }

    private static void tenths() {
        int[] all = {1, 9, 10, 11, 19, 20, 99, 100, 989, 990, 999};
        int[] more = {1, 9, 11, 12, 20, 22, 108, 110, 1087, 1089, 1098};
        for (int i = 0; i < all.length; i++) {
            bears("BRIDGE of " + all[i], one(0, 1, all[i]), 1, all[i]);
            bears("STONE of " + all[i], one(1, 1, all[i]), 1, more[i]);
            bears("ARCHES of " + all[i], one(2, 1, all[i]), 6, more[i]);
            bears("IRON of " + all[i], one(3, 1, all[i]), 1, all[i]);
        }
        bears("BRIDGE", one(0, 99, 999), 99, 999);
        bears("STONE", one(1, 99, 999), 99, 1098);
        bears("ARCHES", one(2, 99, 999), 104, 1098);
        bears("IRON", one(3, 99, 999), 99, 999);
    }

    private static void halves() {
        int[][] whole = {{1, 1}, {2, 2}, {3, 3}, {98, 998}, {99, 999}};
        int[][] half = {{0, 0}, {1, 1}, {1, 1}, {49, 499}, {49, 499}};
        for (int i = 0; i < whole.length; i++) {
            OneHeavyLoad x = one(4, whole[i][0], whole[i][1]);
            bears("UNKNOWN", x, half[i][0], half[i][1]);
            x.ask(2, 1);
            bears("UNKNOWN with FROST", x, half[i][0], half[i][1]);
            x.stand(0, 2, true);
            bears("UNKNOWN, ASKED about", x, whole[i][0], whole[i][1]);
            x.stand(0, 2, false);
            bears("UNKNOWN, not ASKED about again", x, half[i][0], half[i][1]);
        }
        for (int kind = 0; kind <= 3; kind++) {
            OneHeavyLoad x = one(kind, 20, 30);
            int axle = x.bears(0, false);
            int all = x.bears(0, true);
            x.stand(0, 2, true);
            bears("ASKED about, kind " + kind, x, axle, all);
            x.ask(2, 1);
            bears("with FROST, kind " + kind, x, axle, all);
        }
    }

    private static void fords() {
        int[][] whole = {{1, 1}, {3, 3}, {99, 999}};
        int[][] half = {{0, 0}, {1, 1}, {49, 499}};
        for (int i = 0; i < whole.length; i++) {
            OneHeavyLoad x = one(5, whole[i][0], whole[i][1]);
            bears("FORD without FROST", x, 0, 0);
            x.stand(0, 2, true);
            bears("FORD without FROST, ASKED about", x, 0, 0);
            x.ask(2, 1);
            bears("FORD with FROST, ASKED about", x, whole[i][0], whole[i][1]);
            x.stand(0, 2, false);
            bears("FORD with FROST", x, half[i][0], half[i][1]);
            x.ask(2, 0);
            bears("FORD without FROST again", x, 0, 0);
        }
    }

    /** MORE comes to what is cut already: it is neither halved nor has a tenth more. */
    private static void propped() {
        int[] bare = {15, 16, 16, 15, 7, 0};
        for (int kind = 0; kind <= 5; kind++) {
            for (int more : new int[] {0, 1, 999}) {
                OneHeavyLoad x = one(kind, 21, 15);
                x.prop(0, more, 5);
                int axle = x.bears(0, false);
                bears("not PROPPED", x, axle, bare[kind]);
                due("15: PROPPED", x.stand(0, 0, true), kind == 3 ? -5 : 1);
                bears("PROPPED, kind " + kind, x, axle, bare[kind] + (kind == 3 ? 0 : more));
                due("15: not PROPPED", x.stand(0, 0, false), kind == 3 ? 0 : 1);
                bears("not PROPPED again", x, axle, bare[kind]);
            }
        }
    }

    private static void fallen() {
        for (int kind = 0; kind <= 5; kind++) {
            OneHeavyLoad x = one(kind, 99, 999);
            x.prop(0, 999, 5);
            x.ask(2, 1);
            x.stand(0, 2, true);
            int axle = x.bears(0, false);
            int all = x.bears(0, true);
            x.stand(0, 1, true);
            bears("FALLEN, kind " + kind, x, 0, 0);
            x.stand(0, 0, true);
            bears("FALLEN and PROPPED, kind " + kind, x, 0, 0);
            x.stand(0, 1, false);
            bears("PROPPED, kind " + kind, x, axle, kind == 3 ? all : all + 999);
        }
    }
}
