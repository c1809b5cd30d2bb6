/** Promises 1 to 8: a new object, row, set, copy, element, holds, show, says. */
public final class ShelvesTest {
    private static final Check CHECK = new Check("ShelvesTest");

    public static void main(String[] args) {
        newObject();
        row();
        setAndElement();
        copy();
        copyRefusals();
        showAndHolds();
        says();
        CHECK.end();
    }

    private static void due(String call, long got, long want) {
        CHECK.due(call, got, want);
    }

    private static void newObject() {
        OneHeavyLoad x = new OneHeavyLoad();
        for (int what = 0; what <= 7; what++) {
            due("1: status(" + what + ")", x.status(what), 0);
        }
        for (int what = 12; what <= 16; what++) {
            due("1: status(" + what + ")", x.status(what), 0);
        }
        for (int s = 0; s < 8; s++) {
            due("1: holds(" + s + ")", x.holds(s), -1);
        }
        due("1: wipe", x.wipe(), 0);
        due("1: weight", x.ask(0, 0), 100);
        due("1: mile", x.ask(1, 0), 2);
        due("1: frost", x.ask(2, 0), 0);
    }

    private static void row() {
        OneHeavyLoad x = new OneHeavyLoad();
        for (int sort = 0; sort <= 4; sort++) {
            due("2: row", x.row(sort, sort, 40), 1);
            due("2: holds", x.holds(sort), sort);
        }
        due("2: row of none", x.row(7, 0, 0), 1);
        due("2: shelf -1", x.row(-1, 0, 1), -2);
        due("2: shelf 8", x.row(8, 0, 1), -2);
        due("2: sort -1", x.row(0, -1, 1), -2);
        due("2: sort 5", x.row(0, 5, 1), -2);
        due("2: n -1", x.row(0, 0, -1), -2);
        due("2: n 41", x.row(0, 0, 41), -2);
        due("2: refused row changed nothing", x.set(0, 39, 7), 1);
        due("2: six refusals", x.status(12), 6);
        due("2: new row", x.row(0, 0, 40), 1);
        due("2: its elements are 0", x.element(0, 39), 0);
    }

    private static void setAndElement() {
        OneHeavyLoad x = new OneHeavyLoad();
        long v = 0x123456789ABCDEF0L;
        long[] want = {(byte) v, (short) v, (int) v, v, 1};
        for (int sort = 0; sort <= 4; sort++) {
            x.row(sort, sort, 2);
            due("3: set", x.set(sort, 1, v), 1);
            due("5: element of sort " + sort, x.element(sort, 1), want[sort]);
            due("5: other element", x.element(sort, 0), 0);
        }
        x.set(0, 0, 200);
        due("3: a byte of 200", x.element(0, 0), -56);
        x.set(4, 0, 256);
        due("3: a boolean of 256", x.element(4, 0), 1);
        x.set(4, 0, 0);
        due("3: a boolean of 0", x.element(4, 0), 0);
        due("3: BAD shelf", x.set(8, 0, 1), -2);
        due("3: BAD shelf", x.set(-1, 0, 1), -2);
        due("3: NOTHING before BAD i", x.set(5, -1, 1), -4);
        due("3: BAD i", x.set(0, 2, 1), -2);
        due("3: BAD i", x.set(0, -1, 1), -2);
        x.road(0, 1, 1, 0, 1, 0);
        x.bridge(0, 0, 0, 1, 1);
        x.show(5, 0);
        due("3: OTHER", x.set(5, 0, 1), -3);
        long refused = x.status(12);
        due("5: no shelf", x.element(8, 0), 0);
        due("5: no shelf", x.element(-1, 0), 0);
        due("5: a bridge", x.element(5, 0), 0);
        due("5: nothing", x.element(6, 0), 0);
        due("5: none", x.element(0, 2), 0);
        due("5: none", x.element(0, -1), 0);
        due("5: nothing is refused", x.status(12), refused);
    }

    private static OneHeavyLoad rows() {
        OneHeavyLoad x = new OneHeavyLoad();
        x.row(0, 2, 5);
        x.row(1, 2, 3);
        for (int i = 0; i < 5; i++) {
            x.set(0, i, i + 1);
        }
        return x;
    }

    private static void copy() {
        OneHeavyLoad x = rows();
        due("4: copy", x.copy(0, 1, 3, 1, 2), 2);
        due("4: not touched", x.element(1, 0), 0);
        due("4: copied", x.element(1, 1), 4);
        due("4: copied", x.element(1, 2), 5);
        due("4: overlapping, forth", x.copy(0, 0, 0, 1, 4), 4);
        for (int i = 0; i < 5; i++) {
            due("4: as they were", x.element(0, i), i == 0 ? 1 : i);
        }
        x = rows();
        due("4: overlapping, back", x.copy(0, 0, 1, 0, 4), 4);
        for (int i = 0; i < 5; i++) {
            due("4: as they were", x.element(0, i), i == 4 ? 5 : i + 2);
        }
        due("4: none, at the ends", x.copy(0, 1, 5, 3, 0), 0);
        due("4: behind the end", x.copy(0, 1, 6, 3, 0), -2);
        due("4: behind the end", x.copy(0, 1, 5, 4, 0), -2);
        due("4: too many", x.copy(0, 1, 0, 0, 4), -2);
        due("4: too many of p", x.copy(1, 0, 1, 0, 3), -2);
        due("4: n -1", x.copy(0, 1, 1, 1, -1), -2);
        due("4: i -1", x.copy(0, 1, -1, 0, 1), -2);
        due("4: j -1", x.copy(0, 1, 0, -1, 1), -2);
        due("4: huge", x.copy(0, 1, Integer.MAX_VALUE, 0, 1), -2);
        due("4: huge", x.copy(0, 1, 1, 1, Integer.MAX_VALUE), -2);
        due("4: huge", x.copy(0, 1, Integer.MIN_VALUE, 0, Integer.MIN_VALUE), -2);
    }

    private static void copyRefusals() {
        OneHeavyLoad x = rows();
        x.row(2, 3, 5);
        x.road(0, 1, 1, 0, 1, 0);
        x.bridge(0, 0, 0, 1, 1);
        x.show(3, 0);
        due("4: BAD p", x.copy(8, 3, 0, 0, 1), -2);
        due("4: BAD q", x.copy(3, -1, 0, 0, 1), -2);
        due("4: OTHER sort", x.copy(0, 2, 0, 0, 1), -3);
        due("4: OTHER sort before BAD n", x.copy(0, 2, 0, 0, 99), -3);
        due("4: OTHER before NOTHING", x.copy(3, 4, 0, 0, 1), -3);
        due("4: OTHER before NOTHING", x.copy(4, 3, 0, 0, 1), -3);
        due("4: NOTHING before BAD n", x.copy(0, 4, 0, 0, 99), -4);
        due("4: NOTHING", x.copy(4, 0, 0, 0, 1), -4);
    }

    private static void showAndHolds() {
        OneHeavyLoad x = new OneHeavyLoad();
        x.road(0, 1, 1, 0, 1, 0);
        due("7: no bridge yet", x.show(0, 0), -2);
        x.bridge(0, 0, 0, 1, 1);
        x.bridge(0, 3, 7, 1, 1);
        due("7: show", x.show(0, 1), 1);
        due("6: holds", x.holds(0), 11);
        due("7: BAD shelf", x.show(8, 0), -2);
        due("7: BAD shelf", x.show(-1, -1), -2);
        due("7: BAD bridge", x.show(0, 2), -2);
        due("7: BAD bridge", x.show(0, -2), -2);
        due("6: holds it still", x.holds(0), 11);
        due("44: shelves", x.status(5), 1);
        due("7: NOTHING", x.show(0, OneHeavyLoad.NONE), 1);
        due("6: holds NOTHING", x.holds(0), -1);
        due("6: no shelf", x.holds(8), -1);
        due("6: no shelf", x.holds(-1), -1);
        due("6: nothing is refused", x.status(12), 5);
    }

    private static void says() {
        OneHeavyLoad x = new OneHeavyLoad();
        x.road(0, 1, 1, 0, 1, 0);
        x.road(1, 2, 1, 0, 1, 0);
        for (int kind = 0; kind <= 5; kind++) {
            x.bridge(1, kind, 10 + kind, 20 + kind, 100 + kind);
            x.show(kind, kind);
        }
        x.ask(2, 1);
        x.stand(5, 2, true);
        long[][] want = {
            {1, -3, -3, -3, -3, -3},
            {1, 21, -3, -3, -3, -3},
            {1, 27, 27, -3, -3, -3},
            {1, -3, -3, 13, -3, -3},
            {1, -3, -3, -3, 0, -3},
            {1, -3, -3, -3, 1, 105},
        };
        for (int s = 0; s <= 5; s++) {
            for (int kind = 0; kind <= 5; kind++) {
                due("8: says(" + s + ", " + kind + ")", x.says(s, kind), want[s][kind]);
            }
        }
        x.row(6, 0, 1);
        due("8: OTHER: a row", x.says(6, 0), -3);
        due("8: NOTHING", x.says(7, 0), -4);
        due("8: BAD kind", x.says(7, 6), -2);
        due("8: BAD kind", x.says(6, -1), -2);
        due("8: BAD shelf", x.says(8, 0), -2);
        due("8: BAD shelf", x.says(-1, 0), -2);
    }
}
