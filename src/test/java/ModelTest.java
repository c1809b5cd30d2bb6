import java.util.Random;

/** All promises: long runs of calls, drawn by a fixed seed, whose answers the Model gives too. */
public final class ModelTest {
    private static final Check CHECK = new Check("ModelTest");
    private static final int RUNS = 1000;
    private static final int CALLS = 512;
    private static final int LONGEST_TEXT = 80;

    private final OneHeavyLoad x = new OneHeavyLoad();
    private final Model m = new Model();
    private final Random random;
    private final int places;
    private final StringBuilder log = new StringBuilder();
    private int calls = 0;

    private ModelTest(int seed) {
        random = new Random(seed);
        places = seed % 3 == 0 ? 16 : seed % 3 == 1 ? 3 : 6;
    }

    public static void main(String[] args) {
        for (int run = 0; run < RUNS && !CHECK.hasFailed(); run++) {
            ModelTest test = new ModelTest(run);
            test.begin();
            // A text is fed by many calls, so it must begin well ahead of the 512th.
            while (test.calls < CALLS - LONGEST_TEXT && !CHECK.hasFailed()) {
                test.call();
            }
            if (CHECK.hasFailed()) {
                System.out.println("run " + run + ":\n" + test.log);
            }
        }
        CHECK.end();
    }

    private void due(String call, long got, long want) {
        calls++;
        log.append(call).append(" -> ").append(got).append('\n');
        CHECK.due(call, got, want);
    }

    private int upTo(int n) {
        return random.nextInt(n + 1);
    }

    /** Mostly from a to b, now and then just outside or far away. */
    private int about(int a, int b) {
        int odd = random.nextInt(60);
        if (odd == 0) {
            return a - 1;
        }
        if (odd == 1) {
            return b + 1;
        }
        if (odd == 2) {
            return random.nextInt();
        }
        return odd < 6 ? (random.nextBoolean() ? a : b) : a + random.nextInt(b - a + 1);
    }

    private int place() {
        return about(0, places - 1);
    }

    private int last(int what) {
        return Math.max(0, (int) m.status(what) - 1);
    }

    private int aRoad() {
        return about(0, last(0));
    }

    private int aBridge() {
        return about(0, last(1));
    }

    private int aWaggon() {
        return about(0, last(2));
    }

    private int parts() {
        return about(0, (1 << (int) m.status(3)) - 1);
    }

    private void begin() {
        addWaggon();
        for (int i = 0; i < 4; i++) {
            addRoad();
        }
    }

    private void addRoad() {
        int a = place();
        int b = place();
        int c = about(1, 60);
        int d = about(0, 9);
        int e = random.nextInt(3) == 0 ? about(1, 99) : about(60, 99);
        int f = about(0, 15);
        due("road(" + a + ", " + b + ", " + c + ", " + d + ", " + e + ", " + f + ")", x.road(a, b, c, d, e, f), m.road(a, b, c, d, e, f));
    }

    private void addBridge() {
        int a = aRoad();
        int b = about(0, 5);
        int c = about(0, 60);
        int d = about(1, 99);
        int e = random.nextBoolean() ? about(1, 200) : about(1, 999);
        due("bridge(" + a + ", " + b + ", " + c + ", " + d + ", " + e + ")", x.bridge(a, b, c, d, e), m.bridge(a, b, c, d, e));
    }

    private void addWaggon() {
        int a = about(2, 12);
        int b = about(1, 9);
        int c = about(0, 99);
        due("waggon(" + a + ", " + b + ", " + c + ")", x.waggon(a, b, c), m.waggon(a, b, c));
    }

    private void call() {
        int odd = random.nextInt(120);
        if (odd < 25) {
            shelfCall(odd);
        } else if (odd < 55) {
            landCall(odd - 25);
        } else if (odd < 60) {
            tapeCall();
        } else if (odd < 75) {
            tellCall(odd - 60);
        } else if (odd < 105) {
            wayCall(odd - 75);
        } else {
            journeyCall(odd - 105);
        }
    }

    private void shelfCall(int odd) {
        int s = about(0, 7);
        int a = about(0, 7);
        int i = about(0, 12);
        int j = about(0, 12);
        int n = about(0, 8);
        switch (odd) {
            case 0, 1, 2 -> {
                int sort = about(0, 4);
                int size = random.nextInt(3) == 0 ? about(0, 40) : about(5, 20);
                due("row(" + s + ", " + sort + ", " + size + ")", x.row(s, sort, size), m.row(s, sort, size));
            }
            case 3, 4, 5, 6, 7, 8, 9, 10, 11 -> {
                long v = random.nextInt(10) == 0 ? random.nextLong() : aRoad();
                due("set(" + s + ", " + i + ", " + v + ")", x.set(s, i, v), m.set(s, i, v));
            }
            case 12, 13, 14 -> due("copy(" + s + ", " + a + ", " + i + ", " + j + ", " + n + ")",
                    x.copy(s, a, i, j, n), m.copy(s, a, i, j, n));
            case 15, 16, 17 -> due("element(" + s + ", " + i + ")", x.element(s, i), m.element(s, i));
            case 18, 19 -> due("holds(" + s + ")", x.holds(s), m.holds(s));
            case 20, 21 -> {
                int b = random.nextInt(4) == 0 ? -1 : aBridge();
                due("show(" + s + ", " + b + ")", x.show(s, b), m.show(s, b));
            }
            default -> {
                int kind = about(0, 5);
                due("says(" + s + ", " + kind + ")", x.says(s, kind), m.says(s, kind));
            }
        }
    }

    private void landCall(int odd) {
        int b = aBridge();
        int what = about(0, 2);
        boolean is = random.nextBoolean();
        if (odd < 5) {
            addRoad();
        } else if (odd < 10) {
            addBridge();
        } else if (odd < 14) {
            int more = about(0, 999);
            int coin = random.nextBoolean() ? about(0, 60) : about(0, 999);
            due("prop(" + b + ", " + more + ", " + coin + ")", x.prop(b, more, coin), m.prop(b, more, coin));
        } else if (odd < 15) {
            addWaggon();
        } else if (odd < 16) {
            int v = about(1, 99);
            int coin = about(0, 99);
            due("part(" + v + ", " + coin + ")", x.part(v, coin), m.part(v, coin));
        } else if (odd < 20) {
            int v = what == 0 ? about(0, random.nextBoolean() ? 150 : 900) : what == 1 ? about(0, random.nextBoolean() ? 1 : 99) : about(0, 1);
            due("ask(" + what + ", " + v + ")", x.ask(what, v), m.ask(what, v));
        } else if (odd < 27) {
            boolean so = what == 1 ? random.nextInt(4) == 0 : is;
            due("stand(" + b + ", " + what + ", " + so + ")", x.stand(b, what, so), m.stand(b, what, so));
        } else {
            int r = aRoad();
            boolean so = random.nextInt(3) == 0;
            due("shut(" + r + ", " + so + ")", x.shut(r, so), m.shut(r, so));
        }
    }

    private void tapeCall() {
        if (random.nextInt(8) == 0) {
            due("wipe()", x.wipe(), m.wipe());
            return;
        }
        if (random.nextInt(8) == 0) {
            int v = random.nextInt();
            int n = about(1, 4);
            due("feed(" + v + ", " + n + ")", x.feed(v, n), m.feed(v, n));
        }
        String text = text();
        for (int i = 0; i < text.length(); i += 4) {
            int v = 0;
            int n = Math.min(4, text.length() - i);
            for (int k = 0; k < n; k++) {
                v = v << 8 | text.charAt(i + k);
            }
            due("feed(" + v + ", " + n + ")", x.feed(v, n), m.feed(v, n));
        }
        due("land() of '" + text + "'", x.land(), m.land());
    }

    private String text() {
        StringBuilder s = new StringBuilder();
        int statements = 1 + random.nextInt(4);
        for (int i = 0; i < statements; i++) {
            s.append(i == 0 ? "" : random.nextBoolean() ? ";" : " ; ").append(statement());
        }
        if (random.nextInt(3) == 0) {
            int at = random.nextInt(s.length());
            String odd = "  ;x0a9-A\t9";
            switch (random.nextInt(3)) {
                case 0 -> s.deleteCharAt(at);
                case 1 -> s.insert(at, odd.charAt(random.nextInt(odd.length())));
                default -> s.setLength(at);
            }
        }
        return s.toString();
    }

    private String maybe(String word, int a, int b) {
        return random.nextBoolean() ? " " + word + " " + near(a, b) : "";
    }

    private int near(int a, int b) {
        return random.nextInt(40) == 0 ? b + 1 : a + random.nextInt(b - a + 1);
    }

    private String statement() {
        switch (random.nextInt(6)) {
            case 0:
                return "road " + near(0, places - 1) + " " + near(0, 15) + " miles " + near(1, 60) + maybe("rise", 0, 9)
                        + maybe("turn", 50, 99) + maybe("parish", 0, 15);
            case 1:
                return "bridge " + near(0, last(0)) + " kind " + near(0, 5) + " span " + near(0, 60) + " axle " + near(1, 99)
                        + " all " + near(1, 999) + (random.nextBoolean() ? " prop " + near(0, 999) + " " + near(0, 999) : "");
            case 2:
                return "waggon " + near(2, 12) + " space " + near(1, 9) + "tare" + near(0, 99);
            case 3:
                return "load " + near(0, 900);
            case 4:
                return "part " + near(1, 99) + " " + near(0, 99);
            default:
                return "mile " + near(0, 99);
        }
    }

    private void tellCall(int odd) {
        int v = aWaggon();
        int p = parts();
        int b = aBridge();
        int r = aRoad();
        switch (odd) {
            case 0, 1 -> {
                int what = about(0, 6);
                due("roadOf(" + r + ", " + what + ")", x.roadOf(r, what), m.roadOf(r, what));
            }
            case 2, 3, 4 -> {
                int what = about(0, 9);
                due("bridgeOf(" + b + ", " + what + ")", x.bridgeOf(b, what), m.bridgeOf(b, what));
            }
            case 5, 6 -> {
                boolean all = random.nextBoolean();
                due("bears(" + b + ", " + all + ")", x.bears(b, all), m.bears(b, all));
            }
            case 7 -> due("length(" + v + ")", x.length(v), m.length(v));
            case 8 -> due("axle(" + v + ", " + p + ")", x.axle(v, p), m.axle(v, p));
            case 9 -> due("strain(" + v + ", " + p + ", " + b + ")", x.strain(v, p, b), m.strain(v, p, b));
            case 10, 11 -> due("needs(" + v + ", " + p + ", " + b + ")", x.needs(v, p, b), m.needs(v, p, b));
            default -> {
                int what = about(0, 4);
                due("goes(" + v + ", " + p + ", " + r + ", " + what + ")", x.goes(v, p, r, what), m.goes(v, p, r, what));
            }
        }
    }

    private void wayCall(int odd) {
        int v = aWaggon();
        int p = parts();
        int a = place();
        int b = place();
        String journey = "(" + v + ", " + p + ", " + a + ", " + b;
        switch (odd) {
            case 0, 1, 2, 3 -> due("cheapest" + journey + ")", x.cheapest(v, p, a, b), m.cheapest(v, p, a, b));
            case 4, 5, 6 -> due("soonest" + journey + ")", x.soonest(v, p, a, b), m.soonest(v, p, a, b));
            case 7, 8, 9 -> {
                int n = about(1, 20);
                due("again" + journey + ", " + n + ")", x.again(v, p, a, b, n), m.again(v, p, a, b, n));
            }
            case 10 -> {
                int what = about(0, 2);
                due("best(" + a + ", " + b + ", " + what + ")", x.best(a, b, what), m.best(a, b, what));
            }
            case 11, 12, 13, 14, 15, 16, 17 -> tellWay(v, p, a);
            case 18, 19 -> due("reach(" + v + ", " + p + ", " + a + ")", x.reach(v, p, a), m.reach(v, p, a));
            case 20, 21, 22 -> due("hang" + journey + ")", x.hang(v, p, a, b), m.hang(v, p, a, b));
            case 23, 24 -> due("fewest(" + v + ", " + a + ", " + b + ")", x.fewest(v, a, b), m.fewest(v, a, b));
            case 25 -> due("most(" + v + ", " + a + ", " + b + ")", x.most(v, a, b), m.most(v, a, b));
            default -> {
                int d = about(0, 6);
                int chance = about(0, 10);
                int coin = random.nextBoolean() ? about(0, 20) : about(0, 999);
                due("frost" + journey + ", " + d + ", " + chance + ", " + coin + ")", x.frost(v, p, a, b, d, chance, coin),
                        m.frost(v, p, a, b, d, chance, coin));
            }
        }
    }

    private void tellWay(int v, int p, int a) {
        int s = about(0, 7);
        int n = random.nextBoolean() ? about(0, 3) : about(0, 20);
        if (random.nextInt(3) == 0) {
            due("judge(" + v + ", " + p + ", " + a + ", " + s + ", " + n + ")", x.judge(v, p, a, s, n), m.judge(v, p, a, s, n));
        } else {
            int what = about(0, 3);
            due("told(" + v + ", " + p + ", " + a + ", " + s + ", " + n + ", " + what + ")", x.told(v, p, a, s, n, what),
                    m.told(v, p, a, s, n, what));
        }
    }

    private void journeyCall(int odd) {
        int what = about(0, 4);
        switch (odd) {
            case 0, 1 -> {
                int v = aWaggon();
                int p = parts();
                int a = place();
                int b = place();
                due("begin(" + v + ", " + p + ", " + a + ", " + b + ")", x.begin(v, p, a, b), m.begin(v, p, a, b));
            }
            case 2, 3, 4, 5, 6 -> due("step()", x.step(), m.step());
            case 7, 8, 9, 10 -> due("under(" + what + ")", x.under(what), m.under(what));
            case 11 -> {
                if (random.nextInt(3) == 0) {
                    due("image()", x.image(), m.image());
                } else if (random.nextInt(3) == 0) {
                    due("back()", x.back(), m.back());
                }
            }
            default -> {
                int which = about(0, 17);
                due("status(" + which + ")", x.status(which), m.status(which));
            }
        }
    }
}
