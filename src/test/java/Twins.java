import java.util.ArrayList;
import java.util.List;

/**
 * Tries a call on one of two like objects. A refused one may change nothing but how many there were, so both objects
 * must answer everything alike afterwards.
 */
final class Twins {
    interface Maker {
        OneHeavyLoad make();
    }

    interface Call {
        long on(OneHeavyLoad x);
    }

    private static final int BAD = -2;
    private static final int FIRST_COUNT = 12;
    private static final int LAST_COUNT = 16;

    private final Check check;
    private final Maker maker;

    Twins(Check check, Maker maker) {
        this.check = check;
        this.maker = maker;
    }

    /** The call is refused with a number, which is counted once, and nothing else changes. */
    void refused(String name, int number, Call call) {
        OneHeavyLoad x = maker.make();
        OneHeavyLoad y = maker.make();
        check.due(name, call.on(x), number);
        counted(name, x, y, number);
        alike(name, x, y);
    }

    /** The tape has a fault there: it is counted as BAD, and nothing else changes but that the tape is empty. */
    void faulty(String name, int fault, Call call) {
        OneHeavyLoad x = maker.make();
        OneHeavyLoad y = maker.make();
        check.due(name, call.on(x), -20 - fault);
        counted(name, x, y, BAD);
        check.due(name + ", the tape is empty then", x.status(4), 0);
        y.wipe();
        alike(name, x, y);
    }

    /** The call answers so, and nothing is refused. */
    void taken(String name, long want, Call call) {
        OneHeavyLoad x = maker.make();
        check.due(name, call.on(x), want);
        counted(name, x, maker.make(), 0);
    }

    /** The call changes nothing, and nothing is refused. */
    void onlyTold(String name, long want, Call call) {
        OneHeavyLoad x = maker.make();
        OneHeavyLoad y = maker.make();
        check.due(name, call.on(x), want);
        counted(name, x, y, 0);
        alike(name, x, y);
    }

    /** The numbers of the call may be: whatever else stands against it, it isn't BAD. */
    void notBad(String name, Call call) {
        OneHeavyLoad x = maker.make();
        OneHeavyLoad y = maker.make();
        call.on(x);
        check.due(name + " is not BAD", x.status(FIRST_COUNT), y.status(FIRST_COUNT));
    }

    private void counted(String name, OneHeavyLoad x, OneHeavyLoad y, int number) {
        for (int what = FIRST_COUNT; what <= LAST_COUNT; what++) {
            int more = what - FIRST_COUNT == BAD - number ? 1 : 0;
            check.due(name + ", then status(" + what + ")", x.status(what), y.status(what) + more);
        }
    }

    private void alike(String name, OneHeavyLoad x, OneHeavyLoad y) {
        List<Long> got = probe(x);
        List<Long> want = probe(y);
        check.due(name + ": the probe is as long", got.size(), want.size());
        for (int i = 0; i < Math.min(got.size(), want.size()); i++) {
            check.due(name + ": nothing else changed, answer " + i + " of the probe", got.get(i), want.get(i));
        }
    }

    /** Asks for all that can be told, last for what is told only by changing it: the tape, the way on, what was kept. */
    private static List<Long> probe(OneHeavyLoad x) {
        List<Long> told = new ArrayList<>();
        shelves(x, told);
        trip(x, told);
        land(x, told);
        told.add((long) x.land());
        land(x, told);
        told.add((long) x.step());
        trip(x, told);
        told.add((long) x.back());
        land(x, told);
        trip(x, told);
        return told;
    }

    private static void shelves(OneHeavyLoad x, List<Long> told) {
        for (int s = 0; s < 8; s++) {
            told.add((long) x.holds(s));
            for (int i : new int[] {0, 1, 39}) {
                told.add(x.element(s, i));
            }
        }
    }

    private static void land(OneHeavyLoad x, List<Long> told) {
        int[] counts = new int[8];
        for (int what = 0; what <= 7; what++) {
            counts[what] = x.status(what);
            told.add((long) counts[what]);
        }
        // A full land is asked for less, so that an object is never used for more than its 512 calls.
        int by = counts[0] > 6 ? 5 : 1;
        for (int road = 0; road < counts[0]; road += by) {
            for (int what = 0; what <= 6; what++) {
                told.add((long) x.roadOf(road, what));
            }
        }
        for (int bridge = 0; bridge < counts[1]; bridge += by) {
            for (int what = 0; what <= 9; what++) {
                told.add((long) x.bridgeOf(bridge, what));
            }
        }
        for (int waggon = 0; waggon < counts[2]; waggon++) {
            told.add((long) x.length(waggon));
            told.add((long) x.axle(waggon, (1 << counts[3]) - 1));
        }
        told.add((long) x.best(0, 2, 2));
        int[] set = {x.ask(0, 0), x.ask(1, 0), x.ask(2, 0)};
        for (int what = 0; what <= 2; what++) {
            told.add((long) set[what]);
            x.ask(what, set[what]);
        }
    }

    private static void trip(OneHeavyLoad x, List<Long> told) {
        for (int what = 0; what <= 4; what++) {
            told.add((long) x.under(what));
        }
    }
}
