/** Promises 24 to 27: axle, strain, needs, goes. */
public final class PackTest {
    private static final Check CHECK = new Check("PackTest");

    public static void main(String[] args) {
        axle();
        strain();
        needs();
        needsByKind();
        goes();
        goesWithProps();
        CHECK.end();
    }

    private static void due(String call, long got, long want) {
        CHECK.due(call, got, want);
    }

    private static void axle() {
        OneHeavyLoad x = new OneHeavyLoad();
        due("24: no waggon", x.axle(0, 0), -2);
        x.waggon(4, 1, 20);
        x.part(30, 1);
        x.part(99, 1);
        due("24: axle", x.axle(0, 0), 30);
        due("24: rounded up", x.axle(0, 1), 23);
        due("24: 0 at least", x.axle(0, 3), 0);
        x.ask(0, 101);
        due("24: rounded up", x.axle(0, 0), 31);
        x.ask(0, 110);
        due("24: one is left", x.axle(0, 3), 1);
        due("24: BAD waggon", x.axle(1, 0), -2);
        due("24: BAD waggon", x.axle(-1, 0), -2);
        due("24: BAD parts", x.axle(0, 4), -2);
        due("24: BAD parts", x.axle(0, 7), -2);
        due("24: BAD parts", x.axle(0, -1), -2);
        due("24: BAD parts", x.axle(0, 1 << 31), -2);
    }

    private static void strain() {
        OneHeavyLoad x = new OneHeavyLoad();
        x.road(0, 1, 1, 0, 99, 0);
        x.waggon(5, 4, 0);
        int[] spans = {0, 3, 4, 7, 8, 15, 16, 17, 60};
        int[] axles = {1, 1, 2, 2, 3, 4, 5, 5, 5};
        for (int i = 0; i < spans.length; i++) {
            x.bridge(0, i % 6, spans[i], 99, 999);
            due("25: span " + spans[i], x.strain(0, 0, i), axles[i] * 20);
        }
        due("25: BAD waggon", x.strain(1, 0, 0), -2);
        due("25: BAD parts", x.strain(0, 1, 0), -2);
        due("25: BAD bridge", x.strain(0, 0, 9), -2);
        due("25: BAD bridge", x.strain(0, 0, -1), -2);
    }

    private static void needs() {
        OneHeavyLoad x = new OneHeavyLoad();
        x.road(0, 1, 1, 0, 99, 0);
        x.waggon(5, 4, 0);
        x.bridge(0, 0, 8, 20, 60);
        due("26: holds just so", x.needs(0, 0, 0), 0);
        x.bridge(0, 0, 8, 19, 999);
        x.prop(1, 999, 0);
        due("26: no prop helps an axle", x.needs(0, 0, 1), 2);
        x.bridge(0, 0, 8, 20, 50);
        due("26: a prop of nothing", x.needs(0, 0, 2), 2);
        x.prop(2, 9, 0);
        due("26: a prop too weak", x.needs(0, 0, 2), 2);
        x.prop(2, 10, 0);
        due("26: a prop", x.needs(0, 0, 2), 1);
        x.stand(2, 0, true);
        due("26: propped", x.needs(0, 0, 2), 0);
        x.prop(2, 9, 0);
        due("26: propped, and too weak", x.needs(0, 0, 2), 2);
        x.stand(0, 1, true);
        due("26: fallen", x.needs(0, 0, 0), 2);
        x.ask(0, 0);
        due("26: fallen, and no weight at all", x.needs(0, 0, 0), 0);
        due("26: BAD waggon", x.needs(1, 0, 0), -2);
        due("26: BAD parts", x.needs(0, 1, 0), -2);
        due("26: BAD bridge", x.needs(0, 0, 3), -2);
        due("26: BAD bridge", x.needs(0, 0, -1), -2);
    }

    private static void needsByKind() {
        OneHeavyLoad x = new OneHeavyLoad();
        x.road(0, 1, 1, 0, 99, 0);
        x.waggon(5, 4, 0);
        int[] without = {1, 0, 0, 2, 2, 2};
        int[] asked = {1, 0, 0, 2, 1, 2};
        int[] frozen = {1, 0, 0, 2, 1, 1};
        for (int kind = 0; kind <= 5; kind++) {
            x.bridge(0, kind, 8, 20, 59);
            x.prop(kind, 1, 0);
            due("26: kind " + kind, x.needs(0, 0, kind), without[kind]);
            x.stand(kind, 2, true);
            due("26: asked about, kind " + kind, x.needs(0, 0, kind), asked[kind]);
        }
        x.ask(2, 1);
        for (int kind = 0; kind <= 5; kind++) {
            due("26: frozen, kind " + kind, x.needs(0, 0, kind), frozen[kind]);
        }
    }

    private static void goes() {
        OneHeavyLoad x = new OneHeavyLoad();
        x.road(0, 1, 21, 9, 20, 0);
        x.waggon(5, 4, 0);
        x.waggon(6, 4, 0);
        due("27: turn is its length", x.goes(0, 0, 0, 0), 1);
        due("27: a foot too long", x.goes(1, 0, 0, 0), 0);
        due("27: engines", x.goes(0, 0, 0, 3), 2);
        due("27: coin", x.goes(0, 0, 0, 1), 84);
        due("27: days", x.goes(0, 0, 0, 2), 3);
        due("27: props", x.goes(0, 0, 0, 4), 0);
        due("27: STUCK", x.goes(1, 0, 0, 1), -5);
        due("27: STUCK", x.goes(1, 0, 0, 2), -5);
        due("27: engines of a road that doesn't go", x.goes(1, 0, 0, 3), 2);
        due("27: STUCK", x.goes(1, 0, 0, 4), -5);
        x.ask(0, 55);
        due("27: engines, cut", x.goes(0, 0, 0, 3), 1);
        x.ask(1, 0);
        due("27: for nothing", x.goes(0, 0, 0, 1), 0);
        due("27: BAD what", x.goes(0, 0, 0, 5), -2);
        due("27: BAD what", x.goes(1, 0, 0, -1), -2);
        due("27: BAD road", x.goes(0, 0, 1, 0), -2);
        due("27: BAD road", x.goes(0, 0, -1, 0), -2);
        due("27: BAD waggon", x.goes(2, 0, 0, 0), -2);
        due("27: BAD parts", x.goes(0, 1, 0, 0), -2);
        x.road(1, 2, 20, 0, 99, 0);
        x.road(1, 2, 1, 0, 99, 0);
        due("27: days of 20 miles", x.goes(0, 0, 1, 2), 2);
        due("27: days of a mile", x.goes(0, 0, 2, 2), 1);
    }

    private static void goesWithProps() {
        OneHeavyLoad x = new OneHeavyLoad();
        x.road(0, 1, 10, 0, 99, 0);
        x.road(0, 1, 10, 0, 99, 0);
        x.waggon(5, 4, 0);
        x.bridge(0, 0, 8, 20, 50);
        x.bridge(0, 0, 8, 20, 50);
        x.bridge(0, 0, 8, 20, 60);
        x.prop(0, 10, 7);
        x.prop(1, 10, 9);
        x.prop(2, 10, 100);
        x.bridge(1, 0, 0, 1, 1);
        due("27: two props", x.goes(0, 0, 0, 4), 2);
        due("27: their coin", x.goes(0, 0, 0, 1), 36);
        due("27: their days", x.goes(0, 0, 0, 2), 7);
        x.stand(0, 0, true);
        due("27: one stands", x.goes(0, 0, 0, 4), 1);
        due("27: coin of the other", x.goes(0, 0, 0, 1), 29);
        due("27: a bridge too weak", x.goes(0, 0, 1, 0), 0);
        x.stand(2, 1, true);
        due("27: fallen", x.goes(0, 0, 0, 0), 0);
    }
}
