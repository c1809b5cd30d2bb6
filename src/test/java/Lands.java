/** Objects on which the tests try single calls. */
final class Lands {
    private Lands() {
    }

    /**
     * 4 roads, 6 bridges (one of each kind, of the number of its kind), 2 waggons, 3 parts. Shelves 0 and 7 hold 5 ints,
     * 1 holds 3 longs, 2 the FORD, 3 the BRIDGE, 4 the IRON, 5 holds 40 bytes, 6 NOTHING. The tape holds a land, a load
     * is on its way, and something else was kept. Place 9 lies apart.
     */
    static OneHeavyLoad some() {
        OneHeavyLoad x = new OneHeavyLoad();
        x.waggon(5, 4, 0);
        x.waggon(2, 1, 9);
        x.part(30, 4);
        x.part(20, 3);
        x.part(10, 2);
        x.road(0, 1, 10, 0, 99, 1);
        x.road(1, 2, 10, 3, 99, 2);
        x.road(0, 2, 50, 0, 99, 3);
        x.road(2, 3, 7, 9, 19, 4);
        bridges(x);
        x.image();
        x.stand(2, 2, true);
        x.stand(1, 0, true);
        x.stand(5, 1, true);
        x.shut(3, true);
        x.ask(1, 3);
        x.begin(0, 1, 0, 2);
        x.step();
        shelves(x);
        feed(x, "load 77;part 5 6");
        return x;
    }

    private static void bridges(OneHeavyLoad x) {
        x.bridge(0, 0, 8, 20, 50);
        x.bridge(1, 1, 8, 20, 60);
        x.bridge(1, 2, 9, 21, 70);
        x.bridge(2, 3, 12, 25, 90);
        x.bridge(2, 4, 16, 60, 300);
        x.bridge(3, 5, 60, 99, 999);
        x.prop(0, 10, 30);
        x.prop(1, 5, 8);
        x.prop(3, 100, 1);
    }

    private static void shelves(OneHeavyLoad x) {
        x.row(0, 2, 5);
        x.row(7, 2, 5);
        for (int i = 0; i < 5; i++) {
            x.set(0, i, 3 - i);
            x.set(7, i, 100 + i);
        }
        x.row(1, 3, 3);
        x.set(1, 1, 1L << 40);
        x.show(2, 5);
        x.show(3, 0);
        x.show(4, 3);
        x.row(5, 0, 40);
        x.set(5, 39, 1);
    }

    /** No room is left for anything: 24 roads, 16 bridges, 5 waggons, 5 parts, 250 bytes. */
    static OneHeavyLoad full() {
        OneHeavyLoad x = new OneHeavyLoad();
        for (int i = 0; i < 24; i++) {
            x.road(i % 16, (i + 1) % 16, 1 + i, i % 10, 99, i % 16);
        }
        for (int i = 0; i < 16; i++) {
            x.bridge(i, i % 6, i, 50 + i, 100 + i);
        }
        for (int i = 0; i < 5; i++) {
            x.waggon(2 + i, 1 + i, i);
            x.part(1 + i, i);
        }
        feed(x, "load 77;mile 9" + " ".repeat(236));
        return x;
    }

    static void feed(OneHeavyLoad x, String text) {
        for (int i = 0; i < text.length(); i += 4) {
            int n = Math.min(4, text.length() - i);
            int v = 0;
            for (int k = 0; k < n; k++) {
                v = v << 8 | text.charAt(i + k);
            }
            x.feed(v, n);
        }
    }

    /** What land() answers to a text, on a tape that may hold something else before. */
    static int read(OneHeavyLoad x, String text) {
        x.wipe();
        feed(x, text);
        return x.land();
    }
}
