/** Promises 1 to 8: what is empty or full, the ends of rows, and numbers that keep their lowest bits. */
public final class ShelfEdgesTest {
    private static final Check CHECK = new Check("ShelfEdgesTest");

    public static void main(String[] args) {
        newObject();
        twoObjects();
        emptyRow();
        fullRows();
        newRowInAnOldPlace();
        lowestBits();
        booleans();
        copyToTheEnds();
        copyKeepsBits();
        copyOverItself();
        everyShelf();
        lastBridge();
        showTakesThePlace();
        saysByState();
        CHECK.end();
    }

    private static void due(String call, long got, long want) {
        CHECK.due(call, got, want);
    }

    private static void newObject() {
        OneHeavyLoad x = new OneHeavyLoad();
        due("1: THE TAPE is empty, which is no LAND", x.land(), -20);
        due("1: no ROADS", x.roadOf(0, 0), -2);
        due("1: no BRIDGES", x.bridgeOf(0, 0), -2);
        due("1: no WAGGONS", x.length(0), -2);
        x.waggon(2, 1, 0);
        due("1: no PARTS", x.axle(0, 1), -2);
        due("1: the load is 100", x.axle(0, 0), 50);
        due("1: no load is on its way", x.under(0), -5);
        due("1: nothing was kept", x.back(), -5);
        due("44: five were BAD", x.status(12), 5);
        due("44: two were STUCK", x.status(15), 2);
    }

    private static void twoObjects() {
        OneHeavyLoad x = Lands.full();
        OneHeavyLoad y = new OneHeavyLoad();
        x.row(0, 0, 3);
        x.ask(0, 900);
        x.image();
        x.length(9);
        for (int what = 0; what <= 16; what++) {
            due("1: a new object beside another, status(" + what + ")", y.status(what), what < 8 || what > 11 ? 0 : -1);
        }
        due("1: its shelf", y.holds(0), -1);
        due("1: its load", y.ask(0, 1), 100);
        due("1: nothing was kept in it", y.back(), -5);
        due("1: the other one's load", x.ask(0, 1), 900);
    }

    private static void emptyRow() {
        OneHeavyLoad x = new OneHeavyLoad();
        for (int sort = 0; sort <= 4; sort++) {
            due("2: a ROW of 0 elements", x.row(sort, sort, 0), 1);
            due("6: it is a ROW", x.holds(sort), sort);
            due("3: it has no element 0", x.set(sort, 0, 1), -2);
            due("5: it has no element 0", x.element(sort, 0), 0);
            due("4: none of it", x.copy(sort, sort, 0, 0, 0), 0);
            due("4: not one of it", x.copy(sort, sort, 0, 0, 1), -2);
            due("4: not behind it", x.copy(sort, sort, 1, 0, 0), -2);
            due("4: not behind it", x.copy(sort, sort, 0, 1, 0), -2);
        }
        due("44: they are something", x.status(5), 5);
    }

    /** Each element of every shelf's longest row has a value of its own, so none lies where another does. */
    private static void fullRows() {
        OneHeavyLoad x = new OneHeavyLoad();
        for (int s = 0; s < 8; s++) {
            due("2: a ROW of 40", x.row(s, 3, 40), 1);
            for (int i = s % 2; i < 40; i += 13) {
                due("3: set", x.set(s, i, 1000L * s + i + 1), 1);
            }
            due("3: the last", x.set(s, 39, 1000L * s + 40), 1);
            due("3: one behind the last", x.set(s, 40, 5), -2);
        }
        for (int s = 0; s < 8; s++) {
            for (int i = 0; i < 40; i++) {
                boolean put = i == 39 || i % 13 == s % 2 && i >= s % 2;
                due("5: element " + i + " of shelf " + s, x.element(s, i), put ? 1000L * s + i + 1 : 0);
            }
        }
        due("44: all SHELVES hold something", x.status(5), 8);
    }

    private static void newRowInAnOldPlace() {
        OneHeavyLoad x = new OneHeavyLoad();
        x.row(0, 0, 40);
        for (int i = 0; i < 40; i++) {
            x.set(0, i, -1);
        }
        due("2: a shorter ROW", x.row(0, 0, 3), 1);
        due("5: it has no element 3", x.element(0, 3), 0);
        due("3: it has no element 3", x.set(0, 3, 1), -2);
        due("2: a longer ROW", x.row(0, 4, 40), 1);
        for (int i = 0; i < 40; i++) {
            due("2: 0, or not so, at first", x.element(0, i), 0);
        }
        due("44: one SHELF", x.status(5), 1);
        x.road(0, 1, 1, 0, 1, 0);
        x.bridge(0, 0, 0, 1, 1);
        x.show(0, 0);
        due("2: a ROW where a BRIDGE was", x.row(0, 1, 2), 1);
        due("6: a ROW", x.holds(0), 1);
        due("44: one SHELF", x.status(5), 1);
    }

    private static void kept(int sort, long v, long want) {
        OneHeavyLoad x = new OneHeavyLoad();
        x.row(3, sort, 1);
        due("3: set", x.set(3, 0, v), 1);
        due("3: " + v + " in a ROW of SORT " + sort, x.element(3, 0), want);
    }

    private static void lowestBits() {
        int[] bits = {8, 16, 32};
        for (int sort = 0; sort <= 2; sort++) {
            long half = 1L << bits[sort] - 1;
            kept(sort, half - 1, half - 1);
            kept(sort, half, -half);
            kept(sort, -half, -half);
            kept(sort, -half - 1, half - 1);
            kept(sort, 2 * half - 1, -1);
            kept(sort, 2 * half, 0);
            kept(sort, 2 * half + 1, 1);
            kept(sort, -2 * half, 0);
            kept(sort, Long.MAX_VALUE, -1);
            kept(sort, Long.MIN_VALUE, 0);
        }
        kept(3, Long.MAX_VALUE, Long.MAX_VALUE);
        kept(3, Long.MIN_VALUE, Long.MIN_VALUE);
        kept(3, -1, -1);
    }

    private static void booleans() {
        kept(4, 0, 0);
        kept(4, 1, 1);
        kept(4, 2, 1);
        kept(4, 256, 1);
        kept(4, 1L << 32, 1);
        kept(4, -1, 1);
        kept(4, Long.MIN_VALUE, 1);
    }

    private static void copyToTheEnds() {
        OneHeavyLoad x = new OneHeavyLoad();
        x.row(0, 2, 40);
        x.row(7, 2, 40);
        for (int i = 0; i < 40; i++) {
            x.set(0, i, i + 1);
        }
        due("4: one behind all", x.copy(0, 7, 0, 0, 41), -2);
        due("4: all but one, from 1", x.copy(0, 7, 1, 0, 40), -2);
        due("4: all but one, to 1", x.copy(0, 7, 0, 1, 40), -2);
        due("5: nothing came", x.element(7, 0), 0);
        due("4: all", x.copy(0, 7, 0, 0, 40), 40);
        for (int i = 0; i < 40; i++) {
            due("5: came", x.element(7, i), i + 1);
        }
        due("4: the last to the first", x.copy(0, 7, 39, 0, 1), 1);
        due("5: came", x.element(7, 0), 40);
        due("4: the first to the last", x.copy(0, 7, 0, 39, 1), 1);
        due("5: came", x.element(7, 39), 1);
        due("5: beside it", x.element(7, 38), 39);
        due("4: none, behind the last of both", x.copy(0, 7, 40, 40, 0), 0);
        due("4: none, farther behind", x.copy(0, 7, 41, 40, 0), -2);
        due("4: none, farther behind", x.copy(0, 7, 40, 41, 0), -2);
        due("4: one, behind the last", x.copy(0, 7, 40, 0, 1), -2);
        due("4: one, behind the last", x.copy(0, 7, 0, 40, 1), -2);
        due("5: p is as it was", x.element(0, 39), 40);
    }

    private static void copyKeepsBits() {
        long[] values = {-128, -32768, Integer.MIN_VALUE, Long.MIN_VALUE, 1};
        for (int sort = 0; sort <= 4; sort++) {
            OneHeavyLoad x = new OneHeavyLoad();
            x.row(1, sort, 2);
            x.row(2, sort, 3);
            x.set(1, 1, values[sort]);
            x.set(2, 1, 1);
            due("4: ROWS of SORT " + sort, x.copy(1, 2, 0, 1, 2), 2);
            due("5: before it", x.element(2, 0), 0);
            due("5: a 0 came, too", x.element(2, 1), 0);
            due("5: came whole", x.element(2, 2), values[sort]);
        }
    }

    /** "as they were": elements that lie over one another come as they were ahead, whichever way. */
    private static void copyOverItself() {
        for (int shift = -3; shift <= 3; shift++) {
            OneHeavyLoad x = new OneHeavyLoad();
            x.row(0, 1, 10);
            for (int i = 0; i < 10; i++) {
                x.set(0, i, 10 + i);
            }
            int to = 3 + shift;
            due("4: over itself by " + shift, x.copy(0, 0, 3, to, 4), 4);
            for (int i = 0; i < 10; i++) {
                boolean came = i >= to && i < to + 4;
                due("4: as they were, element " + i, x.element(0, i), came ? 13 + i - to : 10 + i);
            }
        }
    }

    private static void everyShelf() {
        OneHeavyLoad x = new OneHeavyLoad();
        x.road(0, 1, 1, 0, 1, 0);
        x.bridge(0, 0, 0, 1, 1);
        for (int s = 0; s < 8; s++) {
            due("7: show", x.show(s, 0), 1);
            due("6: holds", x.holds(s), 10);
            due("8: its ROAD", x.says(s, 0), 0);
            due("44: SHELVES", x.status(5), s + 1);
        }
        for (int s = 0; s < 8; s++) {
            due("7: NOTHING", x.show(s, -1), 1);
            due("6: NOTHING", x.holds(s), -1);
            due("44: SHELVES", x.status(5), 7 - s);
        }
        due("7: NOTHING where NOTHING is", x.show(0, -1), 1);
        due("44: nothing refused", x.status(12), 0);
    }

    private static void lastBridge() {
        OneHeavyLoad x = Lands.full();
        due("7: the last BRIDGE", x.show(7, 15), 1);
        due("6: 10 and its number", x.holds(7), 25);
        due("8: its ROAD", x.says(7, 0), 15);
        due("7: one more", x.show(7, 16), -2);
        due("6: still", x.holds(7), 25);
    }

    private static void showTakesThePlace() {
        OneHeavyLoad x = Lands.some();
        due("7: a BRIDGE where a ROW was", x.show(0, 0), 1);
        due("5: no ROW", x.element(0, 0), 0);
        due("3: OTHER", x.set(0, 0, 1), -3);
        due("7: NOTHING where a ROW was", x.show(7, -1), 1);
        due("5: no ROW", x.element(7, 0), 0);
        due("3: NOTHING", x.set(7, 0, 1), -4);
        due("8: NOTHING", x.says(7, 0), -4);
    }

    /** What BEARS and ASKED say is as all is now, not as it was when the BRIDGE was put there. */
    private static void saysByState() {
        OneHeavyLoad x = new OneHeavyLoad();
        x.road(0, 1, 1, 0, 1, 0);
        x.bridge(0, 5, 0, 99, 999);
        x.bridge(0, 2, 60, 99, 999);
        x.show(0, 0);
        x.show(1, 1);
        due("8: a FORD without FROST", x.says(0, 5), 0);
        x.ask(2, 1);
        due("8: a FORD with FROST, half of it (cut)", x.says(0, 5), 499);
        due("8: not ASKED about", x.says(0, 4), 0);
        x.stand(0, 2, true);
        due("8: ASKED about", x.says(0, 4), 1);
        due("8: a FORD ASKED about", x.says(0, 5), 999);
        x.prop(0, 999, 0);
        x.stand(0, 0, true);
        due("8: PROPPED", x.says(0, 5), 1998);
        x.stand(0, 1, true);
        due("8: FALLEN", x.says(0, 5), 0);
        due("8: FALLEN, and still ASKED about", x.says(0, 4), 1);
        due("8: FALLEN, and still on its ROAD", x.says(0, 0), 0);
        due("8: ARCHES", x.says(1, 2), 104);
        due("8: ARCHES taken for STONE", x.says(1, 1), 104);
        x.stand(1, 1, true);
        due("8: ARCHES, FALLEN", x.says(1, 2), 0);
        due("8: taken for STONE", x.says(1, 1), 0);
    }
}
