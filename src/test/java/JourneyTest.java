/** Promises 39 to 44: begin, step, under, image, back, status. */
public final class JourneyTest {
    private static final Check CHECK = new Check("JourneyTest");

    public static void main(String[] args) {
        stepByStep();
        asAllIsNow();
        leastRoad();
        refusals();
        imageAndBack();
        shelvesAndBack();
        tripAndBack();
        status();
        CHECK.end();
    }

    private static void due(String call, long got, long want) {
        CHECK.due(call, got, want);
    }

    private static void under(String when, OneHeavyLoad x, int... want) {
        for (int what = 0; what < want.length; what++) {
            due("41: " + when + ", under(" + what + ")", x.under(what), want[what]);
        }
    }

    private static OneHeavyLoad land() {
        OneHeavyLoad x = new OneHeavyLoad();
        x.waggon(5, 4, 0);
        x.part(10, 6);
        x.road(1, 0, 10, 0, 99, 1);
        x.road(1, 2, 25, 0, 99, 2);
        x.road(0, 2, 60, 0, 99, 1);
        x.bridge(0, 0, 8, 20, 50);
        x.prop(0, 10, 30);
        x.bridge(0, 0, 8, 20, 60);
        x.prop(1, 10, 30);
        return x;
    }

    private static void stepByStep() {
        OneHeavyLoad x = land();
        due("39: begin", x.begin(0, 1, 0, 2), 1);
        under("begun", x, 0, 2, 6, 0, 0);
        due("40: step", x.step(), 0);
        under("a road on", x, 1, 2, 56, 4, 1);
        due("40: the prop stands", x.bridgeOf(0, 7), 1);
        due("40: one that isn't needed doesn't", x.bridgeOf(1, 7), 0);
        due("40: step", x.step(), 1);
        under("there", x, 2, 2, 106, 7, 2);
        due("40: it is there", x.step(), -5);
        under("there still", x, 2, 2, 106, 7, 2);
        due("39: another one", x.begin(0, 0, 2, 0), 1);
        under("begun", x, 2, 0, 0, 0, 0);
        due("40: step", x.step(), 1);
        due("40: step", x.step(), 0);
        under("the prop stood", x, 0, 0, 70, 4, 2);
    }

    private static void asAllIsNow() {
        OneHeavyLoad x = land();
        x.begin(0, 0, 0, 2);
        due("40: step", x.step(), 0);
        x.shut(1, true);
        due("40: it turns back", x.step(), 0);
        under("where it was", x, 0, 2, 70, 5, 2);
        x.shut(2, true);
        due("40: no way", x.step(), -5);
        under("it stands", x, 0, 2, 70, 5, 2);
        x.shut(2, false);
        x.ask(1, 3);
        due("40: step", x.step(), 2);
        under("mile is 3", x, 2, 2, 250, 11, 3);
    }

    private static void leastRoad() {
        OneHeavyLoad x = new OneHeavyLoad();
        x.waggon(2, 1, 0);
        x.road(0, 1, 10, 0, 99, 0);
        x.road(0, 2, 5, 0, 99, 0);
        x.road(2, 1, 5, 0, 99, 0);
        x.road(0, 1, 10, 0, 99, 0);
        x.begin(0, 0, 0, 1);
        due("40: of several the least", x.step(), 0);
        x.shut(0, true);
        x.begin(0, 0, 0, 1);
        due("40: of several the least", x.step(), 1);
        due("40: and on", x.step(), 2);
        x.shut(1, true);
        x.begin(0, 0, 0, 1);
        due("40: the last", x.step(), 3);
    }

    private static void refusals() {
        OneHeavyLoad x = land();
        due("40: none is on its way", x.step(), -5);
        due("41: none is on its way", x.under(0), -5);
        due("41: BAD before STUCK", x.under(5), -2);
        due("41: BAD", x.under(-1), -2);
        due("39: one place", x.begin(0, 1, 3, 3), 1);
        due("40: it is there", x.step(), -5);
        under("there at once", x, 3, 3, 6, 0, 0);
        due("39: BAD", x.begin(1, 1, 3, 3), -2);
        due("39: BAD", x.begin(0, 2, 3, 3), -2);
        due("39: BAD", x.begin(0, 1, 16, 3), -2);
        due("39: BAD", x.begin(0, 1, 3, -1), -2);
        under("nothing changed", x, 3, 3, 6, 0, 0);
        due("39: no way is needed", x.begin(0, 0, 0, 9), 1);
        due("40: no way", x.step(), -5);
        due("43: nothing was kept", x.back(), -5);
        due("44: STUCK", x.status(15), 5);
    }

    private static void imageAndBack() {
        OneHeavyLoad x = land();
        due("42: image", x.image(), 1);
        x.road(3, 4, 1, 0, 99, 0);
        x.bridge(3, 1, 1, 1, 1);
        x.waggon(2, 1, 0);
        x.part(5, 5);
        x.ask(0, 50);
        x.ask(1, 50);
        x.ask(2, 1);
        x.shut(0, true);
        x.stand(0, 0, true);
        x.stand(0, 1, true);
        x.stand(0, 2, true);
        x.prop(0, 1, 2);
        x.feed(0, 3);
        x.bears(9, true);
        due("43: back", x.back(), 1);
        int[] counts = {3, 2, 1, 1, 3, 0, 0, 0};
        for (int what = 0; what < counts.length; what++) {
            due("43: status(" + what + ")", x.status(what), counts[what]);
        }
        due("43: refusals stay", x.status(12), 1);
        due("43: weight", x.ask(0, 1), 100);
        due("43: mile", x.ask(1, 1), 2);
        due("43: frost", x.ask(2, 1), 0);
        due("43: open", x.roadOf(0, 6), 0);
        due("43: MORE", x.bridgeOf(0, 5), 10);
        due("43: COIN", x.bridgeOf(0, 6), 30);
        due("43: not asked", x.bridgeOf(0, 9), 0);
        due("43: back again", x.back(), 1);
        due("43: weight again", x.ask(0, 1), 100);
        due("42: image again", x.image(), 1);
        x.ask(0, 2);
        due("43: back", x.back(), 1);
        due("43: the later one", x.ask(0, 2), 1);
        due("43: a new bridge in an old place", x.bridge(0, 0, 1, 1, 1), 2);
        for (int what = 5; what <= 9; what++) {
            due("43: is new", x.bridgeOf(2, what), 0);
        }
        x.shut(x.road(3, 4, 1, 0, 99, 0), true);
        x.back();
        due("43: a new road is open", x.roadOf(x.road(3, 4, 1, 0, 99, 0), 6), 0);
    }

    private static void shelvesAndBack() {
        OneHeavyLoad x = land();
        x.image();
        x.bridge(0, 0, 1, 1, 1);
        x.show(0, 0);
        x.show(1, 1);
        x.show(2, 2);
        x.row(3, 2, 4);
        x.set(3, 2, 77);
        due("43: back", x.back(), 1);
        due("43: the same number", x.holds(0), 10);
        due("43: the same number", x.holds(1), 11);
        due("43: NOTHING", x.holds(2), -1);
        due("43: a row", x.holds(3), 2);
        due("43: its element", x.element(3, 2), 77);
        due("44: shelves", x.status(5), 3);
        due("8: NOTHING", x.says(2, 0), -4);
    }

    private static void tripAndBack() {
        OneHeavyLoad x = land();
        x.image();
        x.begin(0, 0, 0, 2);
        x.step();
        due("43: back", x.back(), 1);
        due("43: none is on its way", x.under(0), -5);
        due("43: no prop stands", x.status(6), 0);
        x.begin(0, 0, 0, 2);
        x.step();
        x.image();
        x.step();
        x.begin(0, 0, 5, 6);
        due("43: back", x.back(), 1);
        under("kept on its way", x, 1, 2, 50, 4, 1);
        due("43: the prop stands", x.status(6), 1);
        due("40: and on", x.step(), 1);
    }

    private static void status() {
        OneHeavyLoad x = land();
        x.stand(0, 0, true);
        x.stand(1, 0, true);
        x.stand(1, 1, true);
        x.feed(0, 2);
        x.row(7, 0, 0);
        int[] want = {3, 2, 1, 1, 2, 1, 2, 1};
        for (int what = 0; what < want.length; what++) {
            due("44: status(" + what + ")", x.status(what), want[what]);
        }
        int[] nones = {-1, 8, 9, 10, 11, 17, Integer.MIN_VALUE, Integer.MAX_VALUE};
        for (int what : nones) {
            due("44: status(" + what + ")", x.status(what), -1);
        }
        x.show(0, 0);
        x.length(9);
        x.set(0, 0, 0);
        x.set(0, 0, 0);
        x.set(1, 0, 0);
        x.step();
        x.step();
        x.step();
        for (int i = 0; i < 6; i++) {
            x.part(1, 1);
        }
        int[] refused = {1, 2, 1, 3, 2};
        for (int i = 0; i < refused.length; i++) {
            due("44: REFUSALS " + (-2 - i), x.status(12 + i), refused[i]);
        }
    }
}
