/** Promises 28 to 38: cheapest, soonest, again, best, judge, told, reach, hang, fewest, most, frost. */
public final class WaysTest {
    private static final Check CHECK = new Check("WaysTest");

    public static void main(String[] args) {
        cheapestAndSoonest();
        bothWays();
        badNumbers();
        again();
        best();
        judge();
        judgeRefusals();
        told();
        reach();
        hang();
        fewest();
        most();
        frost();
        CHECK.end();
    }

    private static void due(String call, long got, long want) {
        CHECK.due(call, got, want);
    }

    /** 0 to 2 by a bridge that wants a prop (roads 0, 1), or straight and far (road 2); place 3 lies apart. */
    private static OneHeavyLoad land() {
        OneHeavyLoad x = new OneHeavyLoad();
        x.waggon(5, 4, 0);
        x.part(40, 6);
        x.part(50, 5);
        x.road(0, 1, 10, 0, 99, 1);
        x.road(1, 2, 10, 0, 99, 2);
        x.road(0, 2, 40, 0, 99, 1);
        x.bridge(0, 0, 8, 20, 50);
        x.prop(0, 10, 30);
        return x;
    }

    private static void cheapestAndSoonest() {
        OneHeavyLoad x = land();
        due("28: with a prop", x.cheapest(0, 0, 0, 2), 70);
        due("28: a part sent, no prop", x.cheapest(0, 1, 0, 2), 46);
        due("28: both sent", x.cheapest(0, 3, 0, 2), 51);
        due("28: one place", x.cheapest(0, 3, 3, 3), 11);
        due("28: STUCK", x.cheapest(0, 0, 0, 3), -5);
        due("29: straight", x.soonest(0, 0, 0, 2), 4);
        due("29: no prop to wait for", x.soonest(0, 1, 0, 2), 2);
        due("29: one place", x.soonest(0, 3, 3, 3), 0);
        due("29: STUCK", x.soonest(0, 0, 0, 3), -5);
        x.prop(0, 10, 41);
        due("28: straight is cheaper", x.cheapest(0, 0, 0, 2), 80);
        x.stand(0, 0, true);
        due("28: the prop stands", x.cheapest(0, 0, 0, 2), 40);
        due("29: the prop stands", x.soonest(0, 0, 0, 2), 2);
        x.shut(1, true);
        due("28: shut", x.cheapest(0, 0, 0, 2), 80);
        x.shut(2, true);
        due("28: all shut", x.cheapest(0, 0, 0, 2), -5);
        due("44: STUCK", x.status(15), 3);
    }

    private static void bothWays() {
        OneHeavyLoad x = land();
        due("28: back", x.cheapest(0, 0, 2, 0), 70);
        due("29: back", x.soonest(0, 0, 2, 0), 4);
        due("34: from the end", x.reach(0, 0, 2), 7);
        OneHeavyLoad line = new OneHeavyLoad();
        line.waggon(2, 1, 0);
        for (int place = 15; place > 0; place--) {
            line.road(place, place - 1, 60, 0, 99, 0);
        }
        due("28: all along", line.cheapest(0, 0, 0, 15), 1800);
        due("28: all along", line.cheapest(0, 0, 15, 0), 1800);
        due("29: all along", line.soonest(0, 0, 15, 0), 90);
        due("30: all along", line.again(0, 0, 15, 0, 20), 36000);
    }

    private static void badNumbers() {
        OneHeavyLoad x = land();
        int[][] wrong = {{1, 0, 0, 2}, {-1, 0, 0, 2}, {0, 4, 0, 2}, {0, -1, 0, 2}, {0, 0, -1, 2}, {0, 0, 16, 2},
            {0, 0, 0, -1}, {0, 0, 0, 16}};
        for (int[] a : wrong) {
            due("28: BAD", x.cheapest(a[0], a[1], a[2], a[3]), -2);
            due("29: BAD", x.soonest(a[0], a[1], a[2], a[3]), -2);
            due("30: BAD", x.again(a[0], a[1], a[2], a[3], 1), -2);
            due("35: BAD", x.hang(a[0], a[1], a[2], a[3]), -2);
            due("38: BAD", x.frost(a[0], a[1], a[2], a[3], 1, 1, 1), -2);
            due("39: BAD", x.begin(a[0], a[1], a[2], a[3]), -2);
        }
        due("44: BAD", x.status(12), 6 * wrong.length);
    }

    private static void again() {
        OneHeavyLoad x = land();
        due("30: once", x.again(0, 0, 0, 2, 1), 70);
        due("30: props once", x.again(0, 0, 0, 2, 3), 150);
        due("30: parts each time", x.again(0, 1, 0, 2, 3), 138);
        due("30: one place", x.again(0, 1, 1, 1, 20), 120);
        due("30: BAD n", x.again(0, 0, 0, 2, 0), -2);
        due("30: BAD n", x.again(0, 0, 0, 2, 21), -2);
        due("30: STUCK", x.again(0, 0, 0, 3, 2), -5);
        x.prop(0, 10, 50);
        due("30: straight is cheaper once", x.again(0, 0, 0, 2, 1), 80);
        due("30: a prop pays for many", x.again(0, 0, 0, 2, 2), 130);
    }

    private static void best() {
        OneHeavyLoad x = land();
        due("31: waggon", x.best(0, 2, 0), 0);
        due("31: set", x.best(0, 2, 1), 2);
        due("31: coin", x.best(0, 2, 2), 45);
        x.waggon(10, 2, 0);
        due("31: a lighter axle", x.best(0, 2, 0), 1);
        due("31: nothing sent", x.best(0, 2, 1), 0);
        due("31: coin", x.best(0, 2, 2), 40);
        x.waggon(10, 2, 0);
        due("31: of several the least waggon", x.best(0, 2, 0), 1);
        due("31: one place", x.best(3, 3, 0), 0);
        due("31: one place", x.best(3, 3, 1), 0);
        due("31: one place", x.best(3, 3, 2), 0);
        due("31: STUCK", x.best(0, 3, 0), -5);
        due("31: BAD what", x.best(0, 3, 3), -2);
        due("31: BAD what", x.best(0, 2, -1), -2);
        due("31: BAD place", x.best(-1, 2, 0), -2);
        due("31: BAD place", x.best(0, 16, 0), -2);
        OneHeavyLoad free = new OneHeavyLoad();
        due("31: no waggon", free.best(1, 1, 0), -5);
        free.waggon(2, 1, 0);
        free.part(50, 0);
        free.road(0, 1, 1, 0, 99, 0);
        due("31: of several the least set", free.best(0, 1, 1), 0);
        free.bridge(0, 0, 1, 30, 60);
        due("31: a part that costs nothing", free.best(0, 1, 1), 1);
    }

    private static void judge() {
        OneHeavyLoad x = land();
        x.row(0, 3, 5);
        x.set(0, 0, 0);
        x.set(0, 1, 1);
        x.set(0, 2, 2);
        x.set(0, 3, 2);
        x.set(0, 4, 1);
        due("32: none told", x.judge(0, 0, 3, 0, 0), -1);
        due("32: right", x.judge(0, 0, 0, 0, 4), -1);
        due("32: the same road back", x.judge(0, 0, 0, 0, 5), -1);
        due("32: doesn't go on", x.judge(0, 0, 3, 0, 5), 0);
        due("32: the other end", x.judge(0, 0, 1, 0, 5), 1);
        x.set(0, 3, 1L << 32);
        due("32: a great number is no road", x.judge(0, 0, 0, 0, 5), 3);
        due("32: not asked that far", x.judge(0, 0, 0, 0, 3), -1);
        x.set(0, 2, -1);
        due("32: no road", x.judge(0, 0, 0, 0, 5), 2);
        x.set(0, 2, 3);
        due("32: no road", x.judge(0, 0, 0, 0, 5), 2);
        x.shut(1, true);
        due("32: shut", x.judge(0, 0, 0, 0, 5), 1);
        x.row(1, 4, 1);
        x.set(1, 0, 8);
        x.shut(1, false);
        due("32: a row of booleans", x.judge(0, 0, 1, 1, 1), -1);
        due("32: a row of booleans", x.judge(0, 0, 0, 1, 1), 0);
    }

    private static void judgeRefusals() {
        OneHeavyLoad x = land();
        x.row(0, 0, 2);
        x.row(3, 0, 40);
        x.show(1, 0);
        int[][] calls = {{1, 0, 0, 1, 1, -2}, {0, 4, 0, 1, 1, -2}, {0, 0, 16, 1, 1, -2}, {0, 0, -1, 1, 1, -2},
            {0, 0, 0, 8, 1, -2}, {0, 0, 0, -1, 1, -2}, {0, 0, 0, 1, -1, -2}, {0, 0, 0, 2, 21, -2}, {0, 0, 0, 3, 21, -2},
            {0, 0, 0, 1, 1, -3}, {0, 0, 0, 2, 1, -4}, {0, 0, 0, 2, 0, -4}, {0, 0, 0, 0, 3, -2}};
        for (int[] a : calls) {
            due("32: refused", x.judge(a[0], a[1], a[2], a[3], a[4]), a[5]);
            for (int what = 0; what <= 3; what++) {
                due("33: refused", x.told(a[0], a[1], a[2], a[3], a[4], what), a[5]);
            }
        }
        due("32: twenty", x.judge(0, 0, 0, 3, 20), -1);
        due("33: BAD what", x.told(0, 0, 0, 0, 1, 4), -2);
        due("33: BAD what", x.told(0, 0, 0, 0, 1, -1), -2);
        due("33: BAD what before OTHER", x.told(0, 0, 0, 1, 1, 4), -2);
        due("33: BAD what before NOTHING", x.told(0, 0, 0, 2, 1, 4), -2);
    }

    private static void told() {
        OneHeavyLoad x = land();
        x.row(0, 0, 4);
        x.set(0, 1, 1);
        x.set(0, 2, 2);
        due("33: coin of none", x.told(0, 3, 9, 0, 0, 0), 0);
        due("33: days of none", x.told(0, 3, 9, 0, 0, 1), 0);
        due("33: parishes of none", x.told(0, 3, 9, 0, 0, 2), 0);
        due("33: place of none", x.told(0, 3, 9, 0, 0, 3), 9);
        due("33: coin", x.told(0, 0, 0, 0, 3, 0), 150);
        due("33: coin of roads alone", x.told(0, 1, 0, 0, 3, 0), 120);
        due("33: days", x.told(0, 0, 0, 0, 3, 1), 9);
        due("33: parishes unlike one another", x.told(0, 0, 0, 0, 3, 2), 2);
        due("33: place", x.told(0, 0, 0, 0, 3, 3), 0);
        due("33: used twice, counted twice", x.told(0, 0, 0, 0, 4, 0), 200);
        due("33: used twice, counted twice", x.told(0, 0, 0, 0, 4, 1), 13);
        due("33: place", x.told(0, 0, 0, 0, 4, 3), 1);
        due("33: STUCK", x.told(0, 0, 1, 0, 4, 0), -5);
        due("33: no prop stands by it", x.status(6), 0);
    }

    private static void reach() {
        OneHeavyLoad x = land();
        due("34: reach", x.reach(0, 0, 0), 7);
        due("34: itself", x.reach(0, 0, 15), 1 << 15);
        x.shut(2, true);
        x.stand(0, 1, true);
        due("34: fallen", x.reach(0, 0, 0), 1);
        due("34: fallen", x.reach(0, 0, 1), 6);
        due("34: BAD", x.reach(1, 0, 0), -2);
        due("34: BAD", x.reach(0, 4, 0), -2);
        due("34: BAD", x.reach(0, 0, 16), -2);
        due("34: BAD", x.reach(0, 0, -1), -2);
    }

    private static void hang() {
        OneHeavyLoad x = new OneHeavyLoad();
        x.waggon(5, 4, 0);
        x.road(0, 1, 10, 0, 99, 0);
        due("35: no bridges", x.hang(0, 0, 0, 1), -5);
        x.road(0, 1, 20, 0, 99, 0);
        x.road(1, 2, 20, 0, 99, 0);
        x.road(1, 2, 50, 0, 99, 0);
        x.bridge(1, 0, 8, 99, 999);
        x.bridge(0, 0, 8, 99, 999);
        x.bridge(2, 0, 8, 99, 999);
        x.bridge(2, 0, 8, 99, 999);
        due("35: on which most hangs", x.hang(0, 0, 0, 2), 2);
        due("35: nothing has fallen", x.status(7), 0);
        due("35: the nearer one", x.hang(0, 0, 0, 1), 1);
        due("35: all the same", x.hang(0, 0, 5, 5), 0);
        due("35: no way", x.hang(0, 0, 0, 5), -5);
        x.shut(1, true);
        due("35: no way at all is greatest", x.hang(0, 0, 0, 2), 1);
        x.stand(1, 1, true);
        due("35: no way now", x.hang(0, 0, 0, 2), -5);
        x.shut(1, false);
        due("35: fallen already, the same as now", x.hang(0, 0, 0, 2), 0);
        due("35: it has fallen still", x.bridgeOf(1, 8), 1);
        due("35: only that", x.status(7), 1);
        hangWithProps();
    }

    /** Without bridge 0 it is 50 coin of miles more, without bridge 1 it is a prop for 60. */
    private static void hangWithProps() {
        OneHeavyLoad x = new OneHeavyLoad();
        x.waggon(5, 4, 0);
        x.road(0, 1, 10, 0, 99, 0);
        x.road(0, 1, 35, 0, 99, 0);
        x.road(1, 2, 10, 0, 99, 0);
        x.road(1, 2, 10, 0, 99, 0);
        x.bridge(0, 0, 8, 99, 999);
        x.bridge(2, 0, 8, 99, 999);
        x.bridge(3, 0, 8, 99, 10);
        x.prop(2, 999, 60);
        due("35: a prop counts once, as for one load", x.hang(0, 0, 0, 2), 1);
        x.prop(2, 999, 49);
        due("35: miles", x.hang(0, 0, 0, 2), 0);
        due("35: no prop stands by it", x.status(6), 0);
    }

    private static void fewest() {
        OneHeavyLoad x = new OneHeavyLoad();
        x.waggon(2, 1, 0);
        x.road(0, 1, 10, 0, 99, 0);
        x.part(10, 1);
        x.part(20, 1);
        x.part(30, 1);
        due("36: none", x.fewest(0, 0, 1), 0);
        x.bridge(0, 0, 0, 45, 999);
        due("36: one", x.fewest(0, 0, 1), 1);
        x.bridge(0, 0, 0, 35, 999);
        due("36: one is fewer than two", x.fewest(0, 0, 1), 4);
        x.bridge(0, 0, 0, 30, 999);
        due("36: two, as bits", x.fewest(0, 0, 1), 5);
        x.bridge(0, 0, 0, 20, 999);
        due("36: all", x.fewest(0, 0, 1), 7);
        due("36: one place", x.fewest(0, 1, 1), 0);
        x.bridge(0, 0, 0, 19, 999);
        due("36: STUCK", x.fewest(0, 0, 1), -5);
        x.part(1, 1);
        x.part(1, 1);
        due("36: all five", x.fewest(0, 0, 1), 31);
        due("36: BAD", x.fewest(1, 0, 1), -2);
        due("36: BAD", x.fewest(-1, 0, 1), -2);
        due("36: BAD", x.fewest(0, 16, 1), -2);
        due("36: BAD", x.fewest(0, 0, -1), -2);
    }

    private static void most() {
        OneHeavyLoad x = new OneHeavyLoad();
        x.waggon(4, 2, 10);
        x.part(50, 1);
        x.road(0, 1, 10, 0, 99, 0);
        due("37: no bridge", x.most(0, 0, 1), 900);
        x.bridge(0, 0, 60, 99, 999);
        due("37: by the axle", x.most(0, 0, 1), 386);
        x.bridge(0, 0, 2, 99, 61);
        due("37: by all", x.most(0, 0, 1), 110);
        x.prop(1, 20, 5);
        due("37: with a prop", x.most(0, 0, 1), 150);
        due("37: the load is as it was", x.ask(0, 100), 100);
        due("37: one place", x.most(0, 1, 1), 900);
        x.bridge(0, 0, 2, 2, 61);
        due("37: STUCK", x.most(0, 0, 1), -5);
        due("37: the load is as it was", x.ask(0, 100), 100);
        x.bridge(0, 0, 2, 3, 61);
        x.road(2, 3, 10, 0, 99, 0);
        x.bridge(1, 0, 2, 3, 61);
        due("37: 2", x.most(0, 2, 3), 2);
        due("37: BAD", x.most(1, 0, 1), -2);
        due("37: BAD", x.most(0, 0, 16), -2);
        due("37: BAD", x.most(0, -1, 1), -2);
        x.waggon(4, 2, 12);
        x.waggon(4, 2, 13);
        due("37: 0", x.most(1, 2, 3), 0);
        due("37: not even 0", x.most(2, 2, 3), -5);
        x.stand(4, 1, true);
        due("37: fallen", x.most(0, 2, 3), -5);
    }

    private static void frost() {
        OneHeavyLoad x = new OneHeavyLoad();
        x.waggon(6, 3, 0);
        x.part(1, 3);
        x.road(0, 1, 10, 0, 99, 0);
        x.road(0, 1, 30, 0, 99, 0);
        x.bridge(0, 5, 20, 40, 300);
        due("38: no day left", x.frost(0, 0, 0, 1, 0, 10, 0), 60);
        due("38: sure frost", x.frost(0, 0, 0, 1, 1, 10, 0), 200);
        due("38: no frost, and waiting is free", x.frost(0, 0, 0, 1, 2, 0, 0), 6000);
        due("38: waiting costs too much", x.frost(0, 0, 0, 1, 6, 10, 999), 60000000);
        due("38: a day", x.frost(0, 0, 0, 1, 1, 4, 2), 460);
        due("38: two days", x.frost(0, 0, 0, 1, 2, 4, 2), 3760);
        due("38: parts sent", x.frost(0, 1, 0, 1, 1, 4, 2), 490);
        due("38: no frost is as it was", x.ask(2, 1), 0);
        due("38: frozen now, but not in it", x.frost(0, 0, 0, 1, 1, 4, 2), 460);
        due("38: frost is as it was", x.ask(2, 1), 1);
        x.shut(1, true);
        due("38: STUCK, though there is frost", x.frost(0, 0, 0, 1, 1, 4, 2), -5);
        due("38: frost is as it was", x.ask(2, 1), 1);
        due("38: one place", x.frost(0, 1, 7, 7, 3, 5, 5), 3000);
        int[][] wrong = {{-1, 0, 0}, {7, 0, 0}, {0, -1, 0}, {0, 11, 0}, {0, 0, -1}, {0, 0, 1000}};
        for (int[] a : wrong) {
            due("38: BAD before STUCK", x.frost(0, 0, 0, 1, a[0], a[1], a[2]), -2);
        }
    }
}
