/** Promises 17 to 19: feed, wipe, land. */
public final class TapeTest {
    private static final Check CHECK = new Check("TapeTest");

    public static void main(String[] args) {
        feed();
        fullStatements();
        defaults();
        faults();
        allOrNothing();
        room();
        CHECK.end();
    }

    private static void due(String call, long got, long want) {
        CHECK.due(call, got, want);
    }

    private static void feed() {
        OneHeavyLoad x = new OneHeavyLoad();
        due("17: BAD", x.feed(0, 0), -2);
        due("17: BAD", x.feed(0, 5), -2);
        due("17: BAD", x.feed(0, -1), -2);
        due("17: two bytes", x.feed('l' << 8 | 'o', 2), 2);
        due("17: three lowest bytes", x.feed('x' << 24 | 'a' << 16 | 'd' << 8 | '7', 3), 5);
        due("44: size", x.status(4), 5);
        due("19: land", x.land(), 1);
        due("19: load", x.ask(0, 0), 7);
        due("19: the tape is empty", x.status(4), 0);
        for (int i = 1; i <= 62; i++) {
            due("17: feed", x.feed(-1, 4), 4 * i);
        }
        due("17: FULL", x.feed(0, 3), -6);
        due("17: to the end", x.feed(0, 2), 250);
        due("17: FULL", x.feed(0, 1), -6);
        due("17: BAD before FULL", x.feed(0, 5), -2);
        due("18: wipe", x.wipe(), 250);
        due("18: wipe", x.wipe(), 0);
        x.feed(200, 1);
        due("19: a byte that begins none", x.land(), -20);
    }

    private static void fullStatements() {
        OneHeavyLoad x = new OneHeavyLoad();
        due("19", Check.land(x, "road 3 4 miles 12 rise 5 turn 45 parish 9;bridge 0 kind 2 span 11 axle 22 all 333 prop 44 55"), 2);
        int[] road = {3, 4, 12, 5, 45, 9, 0};
        for (int what = 0; what < 7; what++) {
            due("19: road " + what, x.roadOf(0, what), road[what]);
        }
        int[] bridge = {0, 2, 11, 22, 333, 44, 55, 0, 0, 0};
        for (int what = 0; what < 10; what++) {
            due("19: bridge " + what, x.bridgeOf(0, what), bridge[what]);
        }
        due("19", Check.land(x, "  waggon007space 3tare 10 ;load 90;  part 9 8;mile 3;load 91  "), 5);
        due("19: waggon", x.length(0), 22);
        due("19: axles and tare", x.axle(0, 0), 15);
        due("19: load", x.ask(0, 91), 91);
        due("19: part", x.axle(0, 1), 14);
        due("19: mile", x.ask(1, 3), 3);
        due("19: nothing refused", x.status(12), 0);
    }

    private static void defaults() {
        OneHeavyLoad x = new OneHeavyLoad();
        due("19", Check.land(x, "road 0 15 miles 60 turn 1;road 1 2 miles 1 parish 15;road 2 1 miles 1 rise 9 parish 1;bridge 2 kind 0 span 0 axle 1 all 1"), 4);
        int[][] want = {{0, 1, 0}, {0, 99, 15}, {9, 99, 1}};
        for (int r = 0; r < 3; r++) {
            for (int k = 0; k < 3; k++) {
                due("19: road " + r, x.roadOf(r, 3 + k), want[r][k]);
            }
        }
        due("19: no prop", x.bridgeOf(0, 5) + x.bridgeOf(0, 6), 0);
    }

    private static void fault(String text, int place) {
        OneHeavyLoad x = new OneHeavyLoad();
        x.road(0, 1, 5, 0, 9, 0);
        due("19: '" + text + "'", Check.land(x, text), -20 - place);
        due("19: refused", x.status(12), 1);
        due("19: the tape is empty", x.status(4), 0);
        due("19: nothing came", x.status(0), 1);
    }

    /** The place of the fault is marked by a ^ that is taken out. */
    private static void marked(String text) {
        fault(text.replace("^", ""), text.indexOf('^'));
    }

    private static void faults() {
        String[] texts = {
            "^", "   ^", "^;", "^roads 1 2", "^5", "^Road 0 1 miles 3", "^loadz 5", "^aload 5", "load 1^z", "load ^{5", "load ^/5", "load ^:5", "load ^`5", "load^", "load ^", "load ^;", "load ^x",
            "load ^901", "load ^1000", "load ^0001", "load 900 ^5", "load 900^x", "load 5;^", "load 5; ^", "load 5;^;load 6",
            "mile ^100", "mile 99 ^load 5", "road ^16 1 miles 1", "road 0 ^0 miles 1", "road 7 ^07 miles 1",
            "road 0 ^16 miles 1", "road 0 1 ^mile 1", "road 0 1 miles ^0", "road 0 1 miles ^61", "road 0 1 miles 5 rise ^10",
            "road 0 1 miles 5 turn ^0", "road 0 1 miles 5 turn ^100", "road 0 1 miles 5 parish ^16",
            "road 0 1 miles 5 turn 9 ^rise 1", "road 0 1 miles 5 parish 1 ^turn 9", "road 0 1 miles 5 rise 1 ^rise 1",
            "road 0 1 miles 5 rise^", "road 0 1 miles 5 ^prop 1 1", "bridge ^1 kind 0 span 0 axle 1 all 1",
            "bridge 0 kind ^6 span 0 axle 1 all 1", "bridge 0 kind 0 span ^61 axle 1 all 1",
            "bridge 0 kind 0 span 0 axle ^0 all 1", "bridge 0 kind 0 span 0 axle ^100 all 1",
            "bridge 0 kind 0 span 0 axle 1 all ^0", "bridge 0 kind 0 span 0 axle 1 all ^1000",
            "bridge 0 kind 0 ^axle 1 all 1", "bridge 0 kind 0 span 0 axle 1 all 1 prop^",
            "bridge 0 kind 0 span 0 axle 1 all 1 prop 1^", "bridge 0 kind 0 span 0 axle 1 all 1 prop 1 ^;",
            "bridge 0 kind 0 span 0 axle 1 all 1 prop 1 ^1234", "bridge 0 kind 0 span 0 axle 1 all 1 prop 1 2 ^3",
            "waggon ^1 space 1 tare 1", "waggon ^13 space 1 tare 1", "waggon 2 space ^0 tare 1", "waggon 2 space ^10 tare 1",
            "waggon 2 space 1 tare ^100", "waggon 2 ^tare 1", "part ^0 1", "part ^100 1", "part 1 ^100", "part 1 ^-1",
            "load 5;road 2 3 miles 3;bridge ^2 kind 0 span 0 axle 1 all 1", "load 5;^tape", "load 5^\t;load 6",
        };
        for (String text : texts) {
            marked(text);
        }
    }

    private static void allOrNothing() {
        OneHeavyLoad x = new OneHeavyLoad();
        String all = "road 0 1 miles 5;bridge 0 kind 0 span 0 axle 1 all 1;waggon 2 space 1 tare 1;part 1 1;load 5;mile 5";
        due("19", Check.land(x, all + ";load"), -20 - all.length() - 5);
        for (int what = 0; what <= 3; what++) {
            due("19: nothing", x.status(what), 0);
        }
        due("19: load as it was", x.ask(0, 100), 100);
        due("19: mile as it was", x.ask(1, 2), 2);
        due("19", Check.land(x, all), 6);
        for (int what = 0; what <= 3; what++) {
            due("19: one", x.status(what), 1);
        }
        due("19: a road of the same tape, by its own number", Check.land(x, "road 0 1 miles 5;bridge 1 kind 0 span 0 axle 1 all 1"), 2);
        due("19: its road", x.bridgeOf(1, 0), 1);
    }

    private static void room() {
        OneHeavyLoad x = new OneHeavyLoad();
        for (int i = 0; i < 23; i++) {
            x.road(0, 1, 5, 0, 9, 0);
        }
        for (int i = 0; i < 15; i++) {
            x.bridge(0, 0, 0, 1, 1);
        }
        for (int i = 0; i < 4; i++) {
            x.waggon(2, 1, 1);
            x.part(1, 1);
        }
        due("19: no room", Check.land(x, "road 0 1 miles 5;road 0 1 miles 5"), -37);
        due("19: no room", Check.land(x, "part 1 1;part x"), -29);
        due("19: no room", Check.land(x, "waggon 2 space 1 tare 1;waggon"), -44);
        String bridge = "bridge 0 kind 0 span 0 axle 1 all 1";
        due("19: no room", Check.land(x, bridge + ";" + bridge), -21 - bridge.length());
        due("19: all that there is room for", Check.land(x, "part 1 1;waggon 2 space 1 tare 1;road 0 1 miles 5;" + bridge), 4);
        due("19: roads", x.status(0), 24);
        due("19: bridges", x.status(1), 16);
        due("19: waggons", x.status(2), 5);
        due("19: parts", x.status(3), 5);
        due("19: no room", Check.land(x, "  bridge 99"), -22);
    }
}
