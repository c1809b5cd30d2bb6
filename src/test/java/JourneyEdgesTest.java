/** Promises 39 to 44: a load that is there, goes another way as all is now, what is kept, and every count. */
public final class JourneyEdgesTest {
    private static final Check CHECK = new Check("JourneyEdgesTest");

    public static void main(String[] args) {
        noneIsOnItsWay();
        itIsThere();
        anotherIsGivenUp();
        ownPack();
        leastRoadOfSeveral();
        onceNotTwice();
        propsThatAreNeeded();
        sixteenProps();
        asAllIsNow();
        allTheWay();
        partsSoFar();
        keptWhenNew();
        keptAgain();
        allIsKept();
        onItsWayWhenKept();
        shelvesAreNot();
        bridgesOfTheSameNumbers();
        roomAgain();
        everyStatus();
        everyRefusalCounted();
        CHECK.end();
    }

    private static void due(String call, long got, long want) {
        CHECK.due(call, got, want);
    }

    private static void under(String when, OneHeavyLoad x, int... want) {
        for (int what = 0; what <= 4; what++) {
            due("41: " + when + ", under(" + what + ")", x.under(what), want[what]);
        }
    }

    private static void none(OneHeavyLoad x) {
        for (int what = 0; what <= 4; what++) {
            due("41: none is on its way", x.under(what), -5);
        }
    }

    /** Where a mile costs nothing, every road would be as cheap as standing still. */
    private static OneHeavyLoad free() {
        OneHeavyLoad x = new OneHeavyLoad();
        x.waggon(5, 4, 0);
        x.road(0, 1, 10, 0, 99, 0);
        x.ask(1, 0);
        return x;
    }

    private static void noneIsOnItsWay() {
        OneHeavyLoad x = free();
        due("40: none is on its way", x.step(), -5);
        none(x);
        due("39: BAD", x.begin(1, 0, 0, 1), -2);
        due("40: still none", x.step(), -5);
        due("39: begin", x.begin(0, 0, 0, 1), 1);
        due("40: now one is", x.step(), 0);
    }

    private static void itIsThere() {
        OneHeavyLoad x = free();
        x.begin(0, 0, 0, 0);
        due("40: it is there at once", x.step(), -5);
        under("there at once", x, 0, 0, 0, 0, 0);
        x.begin(0, 0, 0, 1);
        due("40: a ROAD for nothing", x.step(), 0);
        under("there", x, 1, 1, 0, 1, 1);
        due("40: it is there", x.step(), -5);
        due("40: it is there still", x.step(), -5);
        under("there, and is told still", x, 1, 1, 0, 1, 1);
        due("44: STUCK", x.status(15), 3);
    }

    private static void anotherIsGivenUp() {
        OneHeavyLoad x = new OneHeavyLoad();
        x.waggon(5, 4, 0);
        x.part(10, 6);
        x.road(0, 1, 10, 0, 99, 0);
        x.road(1, 2, 10, 0, 99, 0);
        x.begin(0, 1, 0, 2);
        x.step();
        under("on its way", x, 1, 2, 26, 1, 1);
        due("39: another one", x.begin(0, 0, 15, 14), 1);
        under("only begun", x, 15, 14, 0, 0, 0);
        due("40: no WAY", x.step(), -5);
        under("it stands where it is", x, 15, 14, 0, 0, 0);
        due("39: the same again", x.begin(0, 1, 0, 2), 1);
        under("from its beginning", x, 0, 2, 6, 0, 0);
    }

    /** Waggon 1 with part 1 sent goes by road 0; any other pack could not, or would go by road 1. */
    private static void ownPack() {
        OneHeavyLoad x = new OneHeavyLoad();
        x.waggon(2, 1, 0);
        x.waggon(5, 4, 0);
        x.part(1, 9);
        x.part(10, 5);
        x.road(0, 1, 10, 0, 99, 0);
        x.road(0, 1, 20, 0, 99, 0);
        x.bridge(0, 0, 8, 18, 54);
        x.begin(1, 2, 0, 1);
        due("40: by its own PACK", x.step(), 0);
        under("by its own PACK", x, 1, 1, 25, 1, 1);
        x.begin(1, 1, 0, 1);
        due("40: by another set", x.step(), 1);
        under("by another set", x, 1, 1, 49, 2, 1);
        x.begin(0, 2, 0, 1);
        due("40: by another waggon", x.step(), 1);
        under("by another waggon", x, 1, 1, 45, 2, 1);
    }

    private static void leastRoadOfSeveral() {
        OneHeavyLoad x = new OneHeavyLoad();
        x.waggon(5, 4, 0);
        for (int road = 0; road < 24; road++) {
            x.road(road % 2, 1 - road % 2, 10, 0, 99, 0);
        }
        for (int road = 0; road < 24; road++) {
            x.begin(0, 0, road % 3 % 2, 1 - road % 3 % 2);
            due("40: of several the ROAD of the least number", x.step(), road);
            x.shut(road, true);
        }
        x.begin(0, 0, 0, 1);
        due("40: there is no WAY", x.step(), -5);
        OneHeavyLoad y = new OneHeavyLoad();
        y.waggon(5, 4, 0);
        y.road(2, 1, 6, 0, 99, 0);
        y.road(0, 1, 11, 0, 99, 0);
        y.road(0, 3, 4, 0, 99, 0);
        y.road(0, 2, 4, 0, 99, 0);
        y.road(3, 1, 6, 0, 99, 0);
        y.begin(0, 0, 0, 1);
        due("40: of two WAYS that cost the same, by their first ROADS", y.step(), 2);
        due("40: and on", y.step(), 4);
        // For nothing, a WAY that leads off and back costs the same: the least number is taken as the words have it.
        OneHeavyLoad z = free();
        z.road(1, 2, 10, 0, 99, 0);
        z.begin(0, 0, 1, 2);
        due("40: of WAYS for nothing the ROAD of the least number", z.step(), 0);
        under("off", z, 0, 2, 0, 1, 1);
    }

    /** For one load the miles are cheaper, for two the PROP would be. */
    private static void onceNotTwice() {
        OneHeavyLoad x = new OneHeavyLoad();
        x.waggon(5, 4, 0);
        x.road(0, 1, 10, 0, 99, 0);
        x.road(0, 1, 20, 0, 99, 0);
        x.bridge(0, 0, 8, 20, 59);
        x.prop(0, 1, 21);
        x.begin(0, 0, 0, 1);
        due("40: the PROP is a coin too dear", x.step(), 1);
        x.prop(0, 1, 20);
        x.begin(0, 0, 0, 1);
        due("40: just as dear, the least number", x.step(), 0);
        due("40: the PROP stands", x.bridgeOf(0, 7), 1);
        under("with its PROP", x, 1, 1, 40, 4, 1);
        x.begin(0, 0, 1, 0);
        due("40: back", x.step(), 0);
        under("the PROP stood", x, 0, 0, 20, 1, 1);
    }

    private static void propsThatAreNeeded() {
        OneHeavyLoad x = new OneHeavyLoad();
        x.waggon(5, 4, 0);
        x.road(0, 1, 10, 0, 99, 0);
        x.road(1, 2, 10, 0, 99, 0);
        int[][] bridges = {{0, 59}, {1, 59}, {0, 60}, {0, 58}, {1, 60}};
        for (int i = 0; i < bridges.length; i++) {
            x.bridge(bridges[i][0], 0, 8, 20, bridges[i][1]);
            x.prop(i, 5, 10 + i);
        }
        x.begin(0, 0, 0, 2);
        due("44: none stands yet", x.status(6), 0);
        due("40: step", x.step(), 0);
        int[] stand = {1, 0, 0, 1, 0};
        for (int i = 0; i < bridges.length; i++) {
            due("40: PROPS that this ROAD's BRIDGES NEED", x.bridgeOf(i, 7), stand[i]);
        }
        under("a ROAD on", x, 1, 2, 43, 7, 1);
        due("40: step", x.step(), 1);
        due("40: that ROAD's", x.bridgeOf(1, 7), 1);
        due("40: not what HOLDS", x.bridgeOf(4, 7), 0);
        under("there", x, 2, 2, 74, 11, 2);
        due("44: PROPPED", x.status(6), 3);
    }

    private static void sixteenProps() {
        OneHeavyLoad x = new OneHeavyLoad();
        x.waggon(5, 4, 0);
        x.road(0, 1, 60, 0, 99, 0);
        for (int i = 0; i < 16; i++) {
            x.bridge(0, 0, 8, 20, 59);
            x.prop(i, 1, 999);
        }
        x.begin(0, 0, 1, 0);
        due("40: step", x.step(), 0);
        due("44: PROPPED", x.status(6), 16);
        under("with all PROPS", x, 0, 0, 120 + 16 * 999, 54, 1);
    }

    private static void asAllIsNow() {
        OneHeavyLoad x = new OneHeavyLoad();
        x.waggon(5, 4, 0);
        x.road(0, 1, 10, 0, 99, 0);
        x.road(1, 2, 10, 0, 99, 0);
        x.road(0, 2, 30, 0, 99, 0);
        x.bridge(1, 5, 8, 99, 999);
        x.begin(0, 0, 0, 2);
        x.ask(2, 1);
        due("40: FROST came", x.step(), 0);
        x.ask(2, 0);
        due("40: FROST went, so back", x.step(), 0);
        under("back", x, 0, 2, 40, 2, 2);
        x.ask(0, 900);
        x.ask(1, 99);
        due("40: heavier, and a mile is dearer", x.step(), 2);
        under("there", x, 2, 2, 40 + 2970, 5, 3);
        x.begin(0, 0, 2, 0);
        x.shut(2, true);
        due("40: shut", x.step(), -5);
        under("it stands", x, 2, 0, 0, 0, 0);
        x.ask(2, 1);
        due("40: too heavy for the FORD, even with FROST", x.step(), -5);
        x.ask(0, 245);
        due("40: just light enough", x.step(), 1);
    }

    private static void allTheWay() {
        OneHeavyLoad x = new OneHeavyLoad();
        x.waggon(5, 4, 0);
        for (int place = 14; place >= 0; place--) {
            x.road(place, place + 1, 60, 0, 99, 0);
        }
        x.begin(0, 0, 0, 15);
        for (int place = 0; place < 15; place++) {
            under("at " + place, x, place, 15, 120 * place, 6 * place, place);
            due("40: step", x.step(), 14 - place);
        }
        under("there", x, 15, 15, 1800, 90, 15);
        due("40: it is there", x.step(), -5);
    }

    private static void partsSoFar() {
        OneHeavyLoad x = new OneHeavyLoad();
        x.waggon(5, 4, 0);
        for (int part = 0; part < 5; part++) {
            x.part(1, 99);
        }
        x.begin(0, 31, 3, 3);
        under("all PARTS sent", x, 3, 3, 495, 0, 0);
        x.begin(0, 16, 3, 3);
        under("one sent", x, 3, 3, 99, 0, 0);
        x.begin(0, 0, 3, 3);
        under("none sent", x, 3, 3, 0, 0, 0);
    }

    // ---- image and back

    private static void keptWhenNew() {
        OneHeavyLoad x = new OneHeavyLoad();
        due("43: nothing was", x.back(), -5);
        due("42: image", x.image(), 1);
        x.road(0, 1, 1, 0, 99, 0);
        x.waggon(2, 1, 0);
        x.begin(0, 0, 0, 1);
        due("43: back", x.back(), 1);
        for (int what = 0; what <= 3; what++) {
            due("43: as when it was new", x.status(what), 0);
        }
        none(x);
        due("43: no WAGGON", x.length(0), -2);
        due("43: no ROAD", x.roadOf(0, 0), -2);
    }

    private static void keptAgain() {
        OneHeavyLoad x = new OneHeavyLoad();
        x.ask(0, 1);
        x.image();
        x.ask(0, 2);
        x.image();
        x.ask(0, 3);
        due("43: back", x.back(), 1);
        due("43: the later one", x.ask(0, 4), 2);
        due("43: back again", x.back(), 1);
        due("43: it is kept still", x.ask(0, 5), 2);
        due("42: image", x.image(), 1);
        due("43: back", x.back(), 1);
        due("43: the latest one", x.ask(0, 6), 5);
        due("44: STUCK", x.status(15), 0);
    }

    private static void allIsKept() {
        OneHeavyLoad x = Lands.some();
        x.image();
        int[] roads = new int[7];
        int[] bridges = new int[10];
        for (int what = 0; what <= 6; what++) {
            roads[what] = x.roadOf(3, what);
        }
        for (int what = 0; what <= 9; what++) {
            bridges[what] = x.bridgeOf(5, what);
        }
        x.shut(3, false);
        x.prop(5, 77, 78);
        x.stand(5, 0, true);
        x.stand(5, 1, false);
        x.stand(5, 2, true);
        x.ask(0, 7);
        x.ask(1, 7);
        x.ask(2, 1);
        x.road(8, 9, 1, 0, 99, 0);
        x.bridge(4, 0, 0, 1, 1);
        x.waggon(2, 1, 0);
        x.part(1, 1);
        due("43: back", x.back(), 1);
        for (int what = 0; what <= 6; what++) {
            due("43: roadOf(3, " + what + ")", x.roadOf(3, what), roads[what]);
        }
        for (int what = 0; what <= 9; what++) {
            due("43: bridgeOf(5, " + what + ")", x.bridgeOf(5, what), bridges[what]);
        }
        int[] counts = {4, 6, 2, 3};
        for (int what = 0; what <= 3; what++) {
            due("43: status(" + what + ")", x.status(what), counts[what]);
        }
        due("43: WEIGHT", x.ask(0, 1), 100);
        due("43: mile", x.ask(1, 1), 3);
        due("43: FROST", x.ask(2, 1), 0);
    }

    private static void onItsWayWhenKept() {
        OneHeavyLoad x = new OneHeavyLoad();
        x.waggon(2, 1, 0);
        x.waggon(5, 4, 0);
        x.part(1, 2);
        x.part(1, 3);
        x.road(0, 1, 10, 0, 99, 0);
        x.road(1, 2, 10, 0, 9, 0);
        x.road(1, 2, 20, 0, 99, 0);
        x.begin(1, 2, 0, 2);
        x.step();
        x.image();
        x.begin(0, 1, 0, 2);
        x.step();
        due("40: a shorter waggon turns there", x.step(), 1);
        due("43: back", x.back(), 1);
        under("the one that was kept", x, 1, 2, 23, 1, 1);
        due("40: by its own PACK", x.step(), 2);
        under("the one that was kept", x, 2, 2, 63, 3, 2);
        x.back();
        under("the one that was kept, again", x, 1, 2, 23, 1, 1);
        OneHeavyLoad y = new OneHeavyLoad();
        y.waggon(2, 1, 0);
        y.image();
        y.begin(0, 0, 0, 0);
        y.back();
        none(y);
        due("40: none is on its way", y.step(), -5);
    }

    /** "All is kept, but THE TAPE, SHELVES and status()". */
    private static void shelvesAreNot() {
        OneHeavyLoad x = new OneHeavyLoad();
        x.row(0, 2, 3);
        x.set(0, 0, 5);
        Lands.feed(x, "load 5");
        x.length(0);
        x.image();
        x.set(0, 0, 6);
        x.row(1, 0, 1);
        Lands.feed(x, "67");
        x.length(0);
        x.step();
        due("43: back", x.back(), 1);
        due("43: the ROW is as it is now", x.element(0, 0), 6);
        due("43: the later ROW, too", x.holds(1), 0);
        due("43: SHELVES", x.status(5), 2);
        due("43: BAD", x.status(12), 2);
        due("43: STUCK", x.status(15), 1);
        due("43: THE TAPE's size", x.status(4), 8);
        due("43: THE TAPE", x.land(), 1);
        due("43: what it told", x.ask(0, 0), 567);
    }

    private static void bridgesOfTheSameNumbers() {
        for (int kept = 0; kept <= 16; kept += 4) {
            OneHeavyLoad x = new OneHeavyLoad();
            x.road(0, 1, 1, 0, 99, 0);
            for (int i = 0; i < kept; i++) {
                x.bridge(0, 3, i, 1, 1);
            }
            x.image();
            for (int i = kept; i < 16; i++) {
                x.bridge(0, 3, 60, 1, 1);
            }
            int[] shown = {15, 0, 3, 4, 7, 8, 11, 12};
            for (int s = 0; s < 8; s++) {
                x.show(s, shown[s]);
            }
            due("43: back", x.back(), 1);
            int held = 0;
            for (int s = 0; s < 8; s++) {
                boolean there = shown[s] < kept;
                held += there ? 1 : 0;
                due("43: those of the same numbers, or NOTHING", x.holds(s), there ? 10 + shown[s] : -1);
                due("8: what it says", x.says(s, 3), there ? shown[s] : -4);
            }
            due("44: SHELVES", x.status(5), held);
        }
        OneHeavyLoad x = new OneHeavyLoad();
        x.road(0, 1, 1, 0, 99, 0);
        x.bridge(0, 3, 7, 1, 1);
        x.image();
        x.bridge(0, 3, 8, 1, 1);
        x.show(0, 1);
        x.back();
        x.bridge(0, 3, 9, 1, 1);
        due("43: NOTHING, also if another comes into its place", x.holds(0), -1);
    }

    private static void roomAgain() {
        OneHeavyLoad x = Lands.full();
        due("42: image", x.image(), 1);
        due("43: back", x.back(), 1);
        due("9: FULL still", x.road(0, 1, 1, 0, 1, 0), -6);
        OneHeavyLoad y = new OneHeavyLoad();
        y.image();
        for (int round = 0; round < 2; round++) {
            for (int i = 0; i < 24; i++) {
                due("9: ROADS from 0 on", y.road(0, 1, 1 + i, 0, 1, 0), i);
            }
            due("9: FULL", y.road(0, 1, 1, 0, 1, 0), -6);
            y.shut(0, true);
            for (int i = 0; i < 16; i++) {
                due("10: BRIDGES from 0 on", y.bridge(0, 0, i, 1, 1), i);
                due("21: new", y.bridgeOf(i, 5) + y.bridgeOf(i, 6) + y.bridgeOf(i, 7) + y.bridgeOf(i, 8) + y.bridgeOf(i, 9), 0);
                y.prop(i, 5, 5);
                y.stand(i, i % 3, true);
            }
            due("10: FULL", y.bridge(0, 0, 0, 1, 1), -6);
            due("43: back", y.back(), 1);
            due("44: room again", y.status(0) + y.status(1), 0);
        }
    }

    // ---- status

    private static void everyStatus() {
        OneHeavyLoad x = Lands.some();
        int[] want = {4, 6, 2, 3, 16, 7, 1, 1, -1, -1, -1, -1, 0, 0, 0, 0, 0, -1};
        for (int what = 0; what < want.length; what++) {
            due("44: status(" + what + ")", x.status(what), want[what]);
        }
        due("44: below", x.status(-1), -1);
        OneHeavyLoad full = Lands.full();
        int[] most = {24, 16, 5, 5, 250, 0, 0, 0};
        for (int what = 0; what < most.length; what++) {
            due("44: full, status(" + what + ")", full.status(what), most[what]);
        }
        for (int i = 0; i < 16; i++) {
            full.stand(i, 0, true);
            full.stand(i, 1, true);
        }
        // Three of 16 are IRON: 3, 9 and 15.
        due("44: all PROPPED but IRON", full.status(6), 13);
        due("44: all FALLEN", full.status(7), 16);
        due("44: IRON was STUCK", full.status(15), 3);
    }

    private static void everyRefusalCounted() {
        OneHeavyLoad x = Lands.full();
        x.show(0, 0);
        for (int n = 1; n <= 20; n++) {
            x.length(5);
            x.set(0, 0, 0);
            x.set(1, 0, 0);
            x.step();
            x.part(1, 1);
            for (int what = 12; what <= 16; what++) {
                due("44: REFUSALS " + (10 - what), x.status(what), n);
            }
        }
        x.wipe();
        x.land();
        due("44: a FAULT is BAD", x.status(12), 21);
        due("44: and no more than that", x.status(13) + x.status(14) + x.status(15) + x.status(16), 80);
    }
}
