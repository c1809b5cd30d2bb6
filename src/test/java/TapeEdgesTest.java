/** Promises 17 to 19: a full tape, and the FAULT at every token of every STATEMENT. */
public final class TapeEdgesTest {
    private static final Check CHECK = new Check("TapeEdgesTest");
    private static final Twins SOME = new Twins(CHECK, Lands::some);

    /** A word stands for itself, two numbers for the least and the greatest that may be, [ ] for what may be left out. */
    private static final String[] STATEMENTS = {
        "road 0-15 0-15 miles 1-60 [ rise 0-9 ] [ turn 1-99 ] [ parish 0-15 ]",
        "bridge 0-3 kind 0-5 span 0-60 axle 1-99 all 1-999 [ prop 0-999 0-999 ]",
        "waggon 2-12 space 1-9 tare 0-99",
        "load 0-900",
        "part 1-99 0-99",
        "mile 0-99",
    };

    public static void main(String[] args) {
        bytesOfFeed();
        roomForBytes();
        wipe();
        for (String statement : STATEMENTS) {
            String[] tokens = statement.replace("[ ", "").replace("] ", "").replace(" ]", "").split(" ");
            edges(tokens);
            tooEarly(statement, tokens);
            wrongTokens(statement, tokens);
            blanks(tokens);
        }
        leastAndGreatestCome();
        leftOut();
        inOrder();
        placesThatAreOne();
        roadsThatThereAreThen();
        wordsAndNumbers();
        everyByte();
        statementsBetweenSigns();
        room();
        fullTape();
        firstFault();
        allOrNothing();
        slotsAfterAFault();
        CHECK.end();
    }

    private static void due(String call, long got, long want) {
        CHECK.due(call, got, want);
    }

    private static void lands(String text, int statements) {
        SOME.taken("19: '" + text + "'", statements, x -> Lands.read(x, text));
    }

    private static void faulty(String text, int fault) {
        SOME.faulty("19: '" + text + "'", fault, x -> Lands.read(x, text));
    }

    // ---- feed and wipe

    private static void bytesOfFeed() {
        String[] tapes = {"load 5", "load 65", "load 765"};
        for (String text : tapes) {
            for (int n = 1; n <= 4; n++) {
                OneHeavyLoad x = new OneHeavyLoad();
                int size = 0;
                for (int i = 0; i < text.length(); i += n) {
                    int bytes = Math.min(n, text.length() - i);
                    // What lies above the lowest bytes must not come.
                    int v = bytes == 4 ? 0 : -1;
                    for (int k = 0; k < bytes; k++) {
                        v = v << 8 | text.charAt(i + k);
                    }
                    size += bytes;
                    due("17: the lowest bytes, the highest of these first", x.feed(v, bytes), size);
                }
                due("19: '" + text + "' by " + n, x.land(), 1);
                due("19: the load", x.ask(0, 0), Integer.parseInt(text.substring(5)));
            }
        }
        OneHeavyLoad x = new OneHeavyLoad();
        x.feed(-1, 4);
        due("19: bytes of 255 begin none", x.land(), -20);
        x.feed(Integer.MIN_VALUE, 4);
        due("19: a byte of 128 begins none", x.land(), -20);
    }

    private static OneHeavyLoad fed(int size) {
        OneHeavyLoad x = new OneHeavyLoad();
        Lands.feed(x, "load 7" + " ".repeat(size - 6));
        return x;
    }

    private static void roomForBytes() {
        for (int size = 246; size <= 250; size++) {
            for (int n = 1; n <= 4; n++) {
                OneHeavyLoad x = fed(size);
                boolean fits = size + n <= 250;
                due("17: " + n + " more than " + size, x.feed(0x39393939, n), fits ? size + n : -6);
                due("44: size", x.status(4), fits ? size + n : size);
                due("44: FULL", x.status(16), fits ? 0 : 1);
                due("19: what was there, and what came", x.land(), fits ? -20 - size : 1);
                due("19: THE TAPE is empty then", x.status(4), 0);
                due("17: there is room again", x.feed(0, 4), 4);
            }
        }
    }

    private static void wipe() {
        for (int size : new int[] {6, 249, 250}) {
            OneHeavyLoad x = fed(size);
            due("18: its size ahead", x.wipe(), size);
            due("44: size", x.status(4), 0);
            due("18: empty already", x.wipe(), 0);
            due("19: nothing is left of it", x.land(), -20);
            due("19: the load is as it was", x.ask(0, 1), 100);
        }
        OneHeavyLoad x = new OneHeavyLoad();
        due("18: a new one", x.wipe(), 0);
        due("44: nothing refused", x.status(12), 0);
    }

    // ---- one statement, token by token

    private static boolean isNumber(String token) {
        return token.contains("-");
    }

    private static int least(String token) {
        return Integer.parseInt(token.split("-")[0]);
    }

    private static int greatest(String token) {
        return Integer.parseInt(token.split("-")[1]);
    }

    /** The least that may be, or the greatest of B, so that it isn't A. */
    private static String plain(String[] tokens, int k) {
        boolean isB = tokens[0].equals("road") && k == 2;
        return isNumber(tokens[k]) ? "" + (isB ? greatest(tokens[k]) : least(tokens[k])) : tokens[k];
    }

    private static String text(String[] tokens, int from, int to) {
        StringBuilder s = new StringBuilder();
        for (int k = from; k < to; k++) {
            s.append(k == from ? "" : " ").append(plain(tokens, k));
        }
        return s.toString();
    }

    private static String replaced(String[] tokens, int k, String by) {
        String before = k == 0 ? "" : text(tokens, 0, k) + " ";
        String behind = k + 1 == tokens.length ? "" : " " + text(tokens, k + 1, tokens.length);
        return before + by + behind;
    }

    private static int placeOf(String[] tokens, int k) {
        return k == 0 ? 0 : text(tokens, 0, k).length() + 1;
    }

    private static void edges(String[] tokens) {
        for (int k = 1; k < tokens.length; k++) {
            if (isNumber(tokens[k])) {
                int least = least(tokens[k]);
                int greatest = greatest(tokens[k]);
                boolean isA = tokens[0].equals("road") && k == 1;
                boolean isB = tokens[0].equals("road") && k == 2;
                lands(replaced(tokens, k, "" + (isB ? 1 : least)), 1);
                lands(replaced(tokens, k, "" + (isA ? 14 : greatest)), 1);
                lands(replaced(tokens, k, String.format("%03d", isB ? 1 : least)), 1);
                faulty(replaced(tokens, k, String.format("%04d", isB ? 1 : least)), placeOf(tokens, k));
                faulty(replaced(tokens, k, "" + (greatest + 1)), placeOf(tokens, k));
                faulty(replaced(tokens, k, "9999999999999999999999"), placeOf(tokens, k));
                if (least > 0) {
                    faulty(replaced(tokens, k, "" + (least - 1)), placeOf(tokens, k));
                }
            }
        }
    }

    /** Whether a STATEMENT may end ahead of its token k: not inside, nor ahead of what can't be left out. */
    private static boolean mayEnd(String statement, int k) {
        int seen = 0;
        boolean inside = false;
        for (String item : statement.split(" ")) {
            if (seen == k && (item.equals("[") || item.equals("]"))) {
                return true;
            }
            inside = item.equals("[") || inside && !item.equals("]");
            seen += item.equals("[") || item.equals("]") ? 0 : 1;
        }
        return seen == k && !inside;
    }

    private static void tooEarly(String statement, String[] tokens) {
        for (int k = 0; k <= tokens.length; k++) {
            String text = text(tokens, 0, k);
            if (mayEnd(statement, k)) {
                lands(text, 1);
                lands(text + "   ", 1);
                faulty(text + ";", text.length() + 1);
                faulty(text + " ; ", text.length() + 3);
                lands(text + ";load 5", 2);
            } else {
                faulty(text, text.length());
                faulty(text + "   ", text.length() + 3);
                faulty(text + ";load 5", text.length());
            }
        }
    }

    private static void wrongTokens(String statement, String[] tokens) {
        for (int k = 0; k <= tokens.length; k++) {
            String[] wrong = {"x", "miles", "prop", "-", "1234", "5", ";;", "\t", "\n", "" + (char) 0, "" + (char) 160, "A"};
            for (String by : wrong) {
                boolean number = k < tokens.length && isNumber(tokens[k]) && by.equals("5");
                boolean word = k < tokens.length && tokens[k].equals(by);
                if (!number && !word) {
                    String ahead = k == 0 ? "" : text(tokens, 0, k) + " ";
                    // Where a STATEMENT may end, the first SIGN is right, and the second can't stand there.
                    boolean second = by.equals(";;") && mayEnd(statement, k);
                    faulty(ahead + by + " 1", ahead.length() + (second ? 1 : 0));
                }
            }
        }
    }

    private static void blanks(String[] tokens) {
        String text = text(tokens, 0, tokens.length);
        lands("   " + text.replace(" ", "    ") + "   ", 1);
        // Only two numbers need a blank between them.
        lands(text.replaceAll("(?<=[a-z]) (?=[0-9])|(?<=[0-9]) (?=[a-z])", ""), 1);
        lands(text + "; " + "mile 7" + ";load 5", 3);
        for (int k = 0; k < tokens.length; k++) {
            if (!isNumber(tokens[k])) {
                String word = tokens[k];
                faulty(replaced(tokens, k, word.substring(0, 2) + " " + word.substring(2)), placeOf(tokens, k));
                faulty(replaced(tokens, k, word + "s"), placeOf(tokens, k));
                faulty(replaced(tokens, k, word.substring(0, word.length() - 1)), placeOf(tokens, k));
                faulty(replaced(tokens, k, word.substring(0, 1).toUpperCase() + word.substring(1)), placeOf(tokens, k));
                // The word is cut by a byte that begins none, and what is left of it is no word that may stand there.
                faulty(replaced(tokens, k, word.substring(0, 2) + "_" + word.substring(2)), placeOf(tokens, k));
            }
        }
    }

    // ---- what comes

    private static void road(OneHeavyLoad x, String text, int... want) {
        int n = x.status(0);
        due("19: '" + text + "'", Lands.read(x, text), 1);
        for (int what = 0; what < want.length; what++) {
            due("19: '" + text + "', roadOf(.., " + what + ")", x.roadOf(n, what), want[what]);
        }
        due("19: it is open", x.roadOf(n, 6), 0);
    }

    private static void bridge(OneHeavyLoad x, String text, int... want) {
        int n = x.status(1);
        due("19: '" + text + "'", Lands.read(x, text), 1);
        for (int what = 0; what < 10; what++) {
            due("19: '" + text + "', bridgeOf(.., " + what + ")", x.bridgeOf(n, what), what < want.length ? want[what] : 0);
        }
    }

    private static void leastAndGreatestCome() {
        OneHeavyLoad x = new OneHeavyLoad();
        road(x, "road 0 1 miles 1 rise 0 turn 1 parish 0", 0, 1, 1, 0, 1, 0);
        road(x, "road 15 14 miles 60 rise 9 turn 99 parish 15", 15, 14, 60, 9, 99, 15);
        road(x, "road 1 0 miles 060 rise 009 turn 001 parish 015", 1, 0, 60, 9, 1, 15);
        bridge(x, "bridge 0 kind 0 span 0 axle 1 all 1 prop 0 0", 0, 0, 0, 1, 1, 0, 0);
        bridge(x, "bridge 2 kind 5 span 60 axle 99 all 999 prop 999 999", 2, 5, 60, 99, 999, 999, 999);
        bridge(x, "bridge 2 kind 5 span 60 axle 99 all 999 prop 998 0", 2, 5, 60, 99, 999, 998, 0);
        bridge(x, "bridge 2 kind 5 span 60 axle 99 all 999 prop 0 998", 2, 5, 60, 99, 999, 0, 998);
        due("19", Lands.read(x, "waggon 2 space 1 tare 0;waggon 12 space 9 tare 99"), 2);
        due("19: the least WAGGON", x.length(0), 5);
        due("19: the least TARE", x.axle(0, 0), 50);
        due("19: the greatest WAGGON", x.length(1), 103);
        due("19: the greatest TARE", x.axle(1, 0), 17);
        due("19", Lands.read(x, "part 1 0;part 99 99"), 2);
        due("19: the least PART", x.axle(0, 1), 50);
        due("19: its COIN", x.cheapest(0, 1, 0, 0), 0);
        due("19: the greatest PART", x.axle(0, 2), 1);
        due("19: its COIN", x.cheapest(0, 2, 0, 0), 99);
        int[] greatest = {900, 99};
        String[] words = {"load ", "mile "};
        for (int what = 0; what <= 1; what++) {
            due("19", Lands.read(x, words[what] + greatest[what]), 1);
            due("19: the greatest", x.ask(what, 1), greatest[what]);
            due("19", Lands.read(x, words[what] + "0"), 1);
            due("19: the least", x.ask(what, 1), 0);
        }
        due("44: nothing refused", x.status(12), 0);
    }

    private static void leftOut() {
        OneHeavyLoad x = new OneHeavyLoad();
        road(x, "road 2 3 miles 4", 2, 3, 4, 0, 99, 0);
        road(x, "road 2 3 miles 4 rise 5", 2, 3, 4, 5, 99, 0);
        road(x, "road 2 3 miles 4 turn 5", 2, 3, 4, 0, 5, 0);
        road(x, "road 2 3 miles 4 parish 5", 2, 3, 4, 0, 99, 5);
        road(x, "road 2 3 miles 4 rise 5 turn 6", 2, 3, 4, 5, 6, 0);
        road(x, "road 2 3 miles 4 rise 5 parish 6", 2, 3, 4, 5, 99, 6);
        road(x, "road 2 3 miles 4 turn 5 parish 6", 2, 3, 4, 0, 5, 6);
        bridge(x, "bridge 6 kind 1 span 2 axle 3 all 4", 6, 1, 2, 3, 4, 0, 0);
    }

    private static void inOrder() {
        String road = "road 2 3 miles 4 ";
        faulty(road + "turn 5 rise 6", road.length() + 7);
        faulty(road + "parish 5 turn 6", road.length() + 9);
        faulty(road + "parish 5 rise 6", road.length() + 9);
        faulty(road + "rise 5 rise 6", road.length() + 7);
        faulty(road + "turn 5 turn 6", road.length() + 7);
        faulty(road + "parish 5 parish 6", road.length() + 9);
        faulty(road + "miles 4", road.length());
        faulty("bridge 0 kind 0 axle 1 span 1 all 1", 16);
        faulty("bridge 0 span 0 kind 1 axle 1 all 1", 9);
        faulty("bridge 0 kind 0 span 0 axle 1 all 1 prop 1 1 prop 1 1", 45);
        faulty("waggon 2 tare 1 space 1", 9);
    }

    private static void placesThatAreOne() {
        for (int place = 0; place <= 15; place++) {
            faulty("road " + place + " " + place + " miles 1", place < 10 ? 7 : 8);
            faulty("road " + place + "  0" + place + " miles 1", place < 10 ? 8 : 9);
            lands("road " + place + " " + (place ^ 1) + " miles 1", 1);
        }
        faulty("road 3 3", 7);
        faulty("road 16 16 miles 1", 5);
    }

    private static void roadsThatThereAreThen() {
        String bridge = " kind 0 span 0 axle 1 all 1";
        OneHeavyLoad x = new OneHeavyLoad();
        due("19: no ROAD at all", Lands.read(x, "bridge 0" + bridge), -27);
        due("19: a ROAD that comes later", Lands.read(x, "bridge 0" + bridge + ";road 0 1 miles 1"), -27);
        due("19: a ROAD that came", Lands.read(x, "road 0 1 miles 1;bridge 0" + bridge + ";road 0 1 miles 1;bridge 1" + bridge), 4);
        due("19: its ROAD", x.bridgeOf(0, 0), 0);
        due("19: its ROAD", x.bridgeOf(1, 0), 1);
        due("19: one behind the last", Lands.read(x, "bridge 2" + bridge), -27);
        due("19: one behind the last that came", Lands.read(x, "road 0 1 miles 1;bridge 3" + bridge), -44);
        due("19: that ROAD didn't come", Lands.read(x, "bridge 2" + bridge), -27);
        OneHeavyLoad full = Lands.some();
        while (full.status(0) < 24) {
            full.road(0, 1, 1, 0, 1, 0);
        }
        due("19: the last of all ROADS", Lands.read(full, "bridge 23" + bridge), 1);
        due("19: one behind it", Lands.read(full, "bridge 24" + bridge), -27);
    }

    /** "each as long as can be": a word and a number end each other, two words or two numbers do not. */
    private static void wordsAndNumbers() {
        lands("load5;mile6", 2);
        lands("load 5;load 06;load 007", 3);
        faulty("loadmile 5", 0);
        faulty("load 5mile 6", 6);
        faulty("load 5 mile 6", 7);
        faulty("load 5 6", 7);
        faulty("road 01 miles 5", 8);
        faulty("load 0000", 5);
        faulty("load 5load", 6);
        faulty("5load", 0);
        faulty("load -5", 5);
        faulty("load +5", 5);
        faulty("load 5.", 6);
    }

    /** Each of the 256 bytes behind "load 5", and where a STATEMENT should begin. */
    private static void everyByte() {
        for (int b = 0; b < 256; b++) {
            String behind = "load 5" + (char) b;
            if (b == ' ' || b >= '0' && b <= '9') {
                lands(behind, 1);
            } else {
                faulty(behind, b == ';' ? 7 : 6);
            }
            String ahead = (char) b + "load 5";
            if (b == ' ') {
                lands(ahead, 1);
            } else {
                faulty(ahead, 0);
            }
        }
    }

    private static void statementsBetweenSigns() {
        faulty("", 0);
        faulty("  ", 2);
        faulty(";", 0);
        faulty(";load 5", 0);
        faulty("load 5;;load 6", 7);
        faulty("load 5; ;load 6", 8);
        faulty("load 5;", 7);
        lands("load 5", 1);
        lands("load 5;load 6", 2);
        OneHeavyLoad x = new OneHeavyLoad();
        due("19: as many as there can be", Lands.read(x, "mile1;".repeat(40) + "mile3"), 41);
        due("19: the last of them", x.ask(1, 0), 3);
        due("19: an empty tape again", x.land(), -20);
        due("44: that was refused", x.status(12), 1);
    }

    // ---- room, and all or nothing

    private static OneHeavyLoad almostFull(int roads, int bridges, int others) {
        OneHeavyLoad x = new OneHeavyLoad();
        for (int i = 0; i < roads; i++) {
            x.road(0, 1, 1, 0, 1, 0);
        }
        for (int i = 0; i < bridges; i++) {
            x.bridge(0, 0, 0, 1, 1);
        }
        for (int i = 0; i < others; i++) {
            x.waggon(2, 1, 0);
            x.part(1, 0);
        }
        return x;
    }

    private static void room() {
        String[] statements = {"road 0 1 miles 1", "bridge 0 kind 0 span 0 axle 1 all 1", "waggon 2 space 1 tare 0", "part 1 0"};
        int[] rooms = {24, 16, 5, 5};
        for (int k = 0; k < 4; k++) {
            int[] free = {13, 5, 5, 5};
            String text = (statements[k] + ";").repeat(free[k]);
            String just = text.substring(0, text.length() - 1);
            OneHeavyLoad x = almostFull(11, 11, 0);
            due("19: one more than there is room for", Lands.read(x, text + statements[k]), -20 - text.length());
            due("19: its word, though it ends there", Lands.read(x, text + statements[k].split(" ")[0]), -20 - text.length());
            due("19: its word, not its number", Lands.read(x, text + statements[k].split(" ")[0] + " 9999"), -20 - text.length());
            due("19: none came", x.status(k), rooms[k] - free[k]);
            due("44: BAD, not FULL", x.status(12), 3);
            due("44: BAD, not FULL", x.status(16), 0);
            due("19: just what there is room for", Lands.read(x, just), free[k]);
            due("19: all came", x.status(k), rooms[k]);
            due("19: no room for one", Lands.read(x, " " + statements[k]), -21);
            due("19: still", x.status(k), rooms[k]);
            due("19: load and mile need no room", Lands.read(x, "load 5;mile 5"), 2);
        }
    }

    private static OneHeavyLoad alone(String name, String text, int want) {
        OneHeavyLoad x = new OneHeavyLoad();
        due("19: " + name, Lands.read(x, text), want);
        return x;
    }

    private static void fullTape() {
        String end = ";load 7";
        OneHeavyLoad x = alone("250 bytes", "load 5" + " ".repeat(250 - 6 - end.length()) + end, 2);
        due("19: the last of them", x.ask(0, 1), 7);
        alone("it ends too early, at 250", "load" + " ".repeat(246), -270);
        alone("the last byte is wrong", "load 5" + " ".repeat(243) + "x", -269);
        alone("the last byte is a SIGN", "load 5" + " ".repeat(243) + ";", -270);
        alone("all are digits", "load " + "0".repeat(245), -25);
        alone("all are letters", "l".repeat(250), -20);
        alone("all are blanks", " ".repeat(250), -270);
        x = alone("the last byte is a number", "load" + " ".repeat(245) + "9", 1);
        due("19: it came", x.ask(0, 1), 9);
        x = alone("the number goes on to the last byte", "load" + " ".repeat(243) + "789", 1);
        due("19: it came", x.ask(0, 1), 789);
        x = new OneHeavyLoad();
        Lands.feed(x, "load 123");
        x.wipe();
        Lands.feed(x, "load 4");
        due("19: what lay behind THE TAPE isn't read", x.land(), 1);
        due("19: it came", x.ask(0, 1), 4);
        Lands.feed(x, "load   ");
        x.wipe();
        Lands.feed(x, "load");
        due("19: nor blanks that lay there", x.land(), -24);
        Lands.feed(x, "mile 5 9");
        x.wipe();
        Lands.feed(x, "mile 5 ");
        due("19: nor a number that lay there", x.land(), 1);
        Lands.feed(x, "loadx");
        x.wipe();
        Lands.feed(x, "load");
        due("19: nor a letter that lay there", x.land(), -24);
    }

    /** "the first TOKEN that can't stand there": a later one doesn't matter. */
    private static void firstFault() {
        faulty("load 901;load 902", 5);
        faulty("load 5;load 901;?", 12);
        faulty("road 0 0 miles 99 rise 99", 7);
        faulty("road 16 17 miles 0", 5);
        faulty("bridge 9 kind 9", 7);
        faulty("part 100 100", 5);
        faulty("waggon 1 space 0 tare 100", 7);
        faulty("bogey 901", 0);
    }

    private static void allOrNothing() {
        String[] statements = {"road 0 1 miles 5", "bridge 0 kind 0 span 0 axle 1 all 1 prop 3 4", "waggon 2 space 1 tare 1",
            "part 1 1", "load 5", "mile 5"};
        for (String statement : statements) {
            faulty(statement + ";" + statement + ";", 2 * statement.length() + 2);
            faulty(statement + ";#", statement.length() + 1);
            faulty(statement + " #", statement.length() + 1);
        }
    }

    /** What came before a FAULT is not there, nor left in what comes into its place. */
    private static void slotsAfterAFault() {
        OneHeavyLoad x = new OneHeavyLoad();
        x.road(0, 1, 1, 0, 99, 0);
        x.waggon(2, 1, 0);
        String text = "bridge 0 kind 4 span 9 axle 9 all 9 prop 8 7;road 5 6 miles 9 rise 9;part 9 9;?";
        due("19: a FAULT behind", Lands.read(x, text), -20 - text.indexOf('?'));
        due("10: a BRIDGE", x.bridge(0, 0, 1, 2, 3), 0);
        int[] bridge = {0, 0, 1, 2, 3, 0, 0, 0, 0, 0};
        for (int what = 0; what <= 9; what++) {
            due("21: it is new", x.bridgeOf(0, what), bridge[what]);
        }
        due("24: no PART came", x.axle(0, 1), -2);
        due("20: no ROAD came", x.roadOf(1, 0), -2);
    }
}
