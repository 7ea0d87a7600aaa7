/** Each promise by hand: ordinary calls, the edges that the document names, and wrong arguments. */
public final class PromiseTest {
    private static final int UNKNOWN = -1, OUTSIDE = -2, STATE = -3, FULL = -4, NONE = -9;
    private static final int NULL = -11, CAST = -12, INDEX = -13, SIZE = -14;
    private static final long LOST = Long.MIN_VALUE;

    private static final int[] FAR = {Integer.MIN_VALUE, -1000, 1000, Integer.MAX_VALUE};

    private static int right = 0;
    private static int wrong = 0;

    private static void due(int promise, String what, long got, long want) {
        if (got == want) {
            right++;
        } else {
            wrong++;
            System.out.println("promise " + promise + ": " + what + ": " + got + ", due is " + want);
        }
    }

    private static int read(WalkingBus x, String text) {
        x.sheet(0, 0, text.length());
        for (int i = 0; i < text.length(); i++) {
            x.put(0, i, text.charAt(i));
        }
        return x.streets(0, 0, 0, text.length());
    }

    private static WalkingBus town(String text) {
        WalkingBus x = new WalkingBus();
        if (read(x, text) < 0) {
            wrong++;
            System.out.println("a text was not taken: " + text);
        }
        return x;
    }

    private static void row(WalkingBus x, int sheet, int sort, int... values) {
        x.sheet(sheet, sort, values.length);
        for (int i = 0; i < values.length; i++) {
            x.put(sheet, i, values[i]);
        }
    }

    // Corner 0 to 2: road 3 (length 4) is shorter than roads 0, 1.
    private static final String FIVE = "n5;012c52;123;234c11;024;345;s4";

    private static void promise1() {
        WalkingBus x = new WalkingBus();
        for (int what = 0; what <= 6; what++) {
            due(1, "many(" + what + ")", x.many(what), 0);
        }
        for (int k = 0; k < 4; k++) {
            due(1, "lose", x.lose(k), 0);
        }
        due(1, "no corner", x.way(0, 0, 0), UNKNOWN);
        due(1, "no road", x.ofRoad(0, 0), UNKNOWN);
        due(1, "no child", x.tell(0), UNKNOWN);
        due(1, "no helper", x.days(0, 0), UNKNOWN);
        due(1, "trace", x.trace(), 0);
        due(1, "fault", x.fault(), 0);
        due(1, "holds", x.holds(1), 6);
    }

    private static void promise2() {
        due(2, "UNKNOWN", WalkingBus.UNKNOWN, -1);
        due(2, "LOST", WalkingBus.LOST, Long.MIN_VALUE);
        WalkingBus x = town(FIVE);
        due(2, "roads", x.many(1), 5);
        firstFaults(x);
        due(2, "nothing is changed by texts with faults", x.many(1), 5);
        due(2, "one road", read(x, "n2;011;s0"), 1);
        due(2, "twelve roads", read(x, "n2" + ";011".repeat(12) + ";s1"), 12);
        String full = "n7;561c11" + ";0112c34".repeat(11) + ";s6";
        due(2, "a hundred codes", full.length(), 100);
        due(2, "a hundred codes", read(x, full), 12);
        due(34, "twelve crossings", x.many(2), 12);
        due(2, "less again", read(x, "n2;011;s0"), 1);
        due(2, "and less", read(x, "n2;011;s0"), 1);
        due(34, "no crossing is left over", x.many(2), 0);
        due(2, "30, c99", read(x, "n7;0630c99;s6"), 1);
        due(2, "two digits, the first 0", read(x, "n2;0105;s0"), 1);
        due(2, "its length", x.ofRoad(0, 2), 5);
        rows();
        anew();
    }

    private static void firstFaults(WalkingBus x) {
        String[] texts = {"", "m2", "n", "n1;", "n8;", "nx", "n2", "n2:", "n2;", "n2;s", "n2;2", "n2;0", "n2;00", "n2;02",
            "n2;01", "n2;01x", "n2;01;", "n2;010", "n2;010;", "n2;0100", "n2;013", "n2;0131", "n2;0140", "n2;0130", "n2;01305",
            "n2;01300", "n2;012c", "n2;012c0", "n2;012c;", "n2;012c5", "n2;012c50", "n2;012c5;", "n2;012c55", "n2;012c555",
            "n2;012c:5", "n2;012c5:", "n7;078", "n2;01:", "n2;013:", "n:", "n2;012x", "n2;012;", "n2;012;c", "n2;012;s", "n2;012;s2", "n2;012;s;", "n2;012;s1;", "n2;012;s11", "n2;012s1"};
        int[] places = {0, 0, 1, 1, 1, 1, 2, 2, 3, 3, 3, 4, 4, 4,
            5, 5, 5, 5, 5, 5, 6, 5, 5, 7, 7,
            7, 7, 7, 7, 8, 8, 8, 9, 9,
            7, 8, 4, 5, 6, 1, 6, 7, 7, 8, 8, 8, 9, 9, 6};
        for (int k = 0; k < texts.length; k++) {
            due(2, "first fault of " + texts[k], read(x, texts[k]), -100 - places[k]);
            due(2, "no fault of the machine", x.fault(), 0);
        }
        String twelve = "n2" + ";011".repeat(12);
        due(2, "after twelve roads", read(x, twelve + ";"), -100 - 51);
        due(2, "a thirteenth road", read(x, twelve + ";0"), -100 - 51);
        due(2, "a thirteenth road, whole", read(x, twelve + ";011;s1"), -100 - 51);
    }

    private static void rows() {
        WalkingBus x = new WalkingBus();
        due(2, "a sheet with nothing", x.streets(0, 0, 0, 0), NULL);
        due(2, "its fault", x.fault(), 1);
        due(2, "nothing is no cast", x.streets(0, 2, -1, -1), NULL);
        row(x, 1, 1, 'x', 'n', '2', ';', '0', '1', '9', ';', 's', '0', 'x');
        due(2, "another sort", x.streets(1, 2, 1, 9), CAST);
        due(2, "cast comes first", x.streets(1, 0, -1, -1), CAST);
        due(2, "its fault", x.fault(), 2);
        due(2, "a length below 0", x.streets(1, 1, -1, -1), SIZE);
        due(2, "its fault", x.fault(), 4);
        due(2, "beyond", x.streets(1, 1, 3, 9), INDEX);
        due(2, "its fault", x.fault(), 3);
        due(2, "from below 0", x.streets(1, 1, -1, 0), INDEX);
        due(2, "none at the end", x.streets(1, 1, 11, 0), -100);
        due(2, "none beyond the end", x.streets(1, 1, 12, 0), INDEX);
        due(2, "far", x.streets(1, 1, Integer.MAX_VALUE, Integer.MAX_VALUE), INDEX);
        due(2, "from the middle", x.streets(1, 1, 1, 9), 1);
        due(2, "fault of a call that came to none", x.fault(), 0);
        due(2, "sheet 4", x.streets(4, 3, 0, 0), UNKNOWN);
        due(2, "sort 3", x.streets(1, 3, 0, 0), OUTSIDE);
        row(x, 2, 2, 'n' + 256, '2', ';', '0', '1', '9', ';', 's', '0');
        due(2, "an int is not cut", x.streets(2, 2, 0, 9), -100);
        for (int far : FAR) {
            due(2, "far sheet", x.streets(far, 0, 0, 0), UNKNOWN);
            due(2, "far sort", x.streets(0, far, 0, 0), OUTSIDE);
            due(2, "far place", x.streets(2, 2, far, 1), INDEX);
        }
    }

    private static void anew() {
        WalkingBus x = town(FIVE);
        x.child(0, 1, 5, 5);
        x.child(0, 2, 5, 5);
        x.tie(0, 1, 1);
        x.helper(3);
        due(2, "a fault leaves the children", read(x, "n2;011;s"), -108);
        due(2, "children", x.many(3), 2);
        due(2, "a text that is taken", read(x, "n2;011;s0"), 1);
        due(2, "no children", x.many(3), 0);
        due(2, "no friends", x.many(5), 0);
        due(2, "helpers stay", x.many(4), 1);
        due(2, "corners", x.many(0), 2);
        due(2, "the first child again", x.child(0, 1, 5, 5), 0);
        due(2, "it has no friends", x.ofChild(0, 6), 0);
    }

    private static void promise3() {
        WalkingBus x = town(FIVE);
        int[][] roads = {{0, 1, 2, 5, 2}, {1, 2, 3, 0, 0}, {2, 3, 4, 1, 1}, {0, 2, 4, 0, 0}, {3, 4, 5, 0, 0}};
        for (int k = 0; k < 5; k++) {
            for (int what = 0; what < 5; what++) {
                due(3, "ofRoad", x.ofRoad(k, what), roads[k][what]);
            }
        }
        due(3, "as told", town("n3;211;s0").ofRoad(0, 0), 2);
        due(3, "what -1", x.ofRoad(0, -1), OUTSIDE);
        due(3, "what 5", x.ofRoad(0, 5), OUTSIDE);
        due(3, "road 5", x.ofRoad(5, 5), UNKNOWN);
        for (int far : FAR) {
            due(3, "far road", x.ofRoad(far, 0), UNKNOWN);
            due(3, "far part", x.ofRoad(0, far), OUTSIDE);
        }
    }

    private static void promise4() {
        WalkingBus x = town(FIVE);
        due(4, "length", x.way(0, 2, 0), 4);
        due(4, "crossings", x.way(0, 2, 1), 0);
        due(4, "roads", x.way(0, 2, 2), 1);
        due(4, "length 0 to 4", x.way(0, 4, 0), 13);
        due(4, "crossings 0 to 4", x.way(0, 4, 1), 1);
        due(4, "roads 4 to 0", x.way(4, 0, 2), 3);
        due(4, "the same corner", x.way(3, 3, 0), 0);
        due(4, "roads of the same corner", x.way(3, 3, 2), 0);
        due(4, "what 3", x.way(0, 1, 3), OUTSIDE);
        due(4, "what -1", x.way(0, 1, -1), OUTSIDE);
        due(4, "corner 5", x.way(5, 0, 3), UNKNOWN);
        due(4, "corner -1", x.way(0, -1, 3), UNKNOWN);
        WalkingBus parted = town("n4;011;231;s3");
        due(4, "no way", parted.way(0, 3, 0), NONE);
        due(4, "no way, roads", parted.way(1, 2, 2), NONE);
        due(4, "what comes ahead of no way", parted.way(0, 3, 3), OUTSIDE);
        WalkingBus fewest = town("n3;024c11;012;122;s2");
        due(4, "the fewest crossings", fewest.way(0, 2, 1), 0);
        due(4, "by two roads", fewest.way(0, 2, 2), 2);
    }

    private static void promise5() {
        WalkingBus x = town(FIVE);
        due(5, "first road", x.along(0, 4, 0), 3);
        due(5, "second road", x.along(0, 4, 1), 2);
        due(5, "third road", x.along(0, 4, 2), 4);
        due(5, "no fourth", x.along(0, 4, 3), NONE);
        due(5, "back", x.along(4, 0, 0), 4);
        due(5, "the same corner", x.along(1, 1, 0), NONE);
        due(5, "below 0", x.along(0, 4, -1), OUTSIDE);
        due(5, "corner 5", x.along(0, 5, -1), UNKNOWN);
        due(5, "far", x.along(0, 4, Integer.MAX_VALUE), NONE);
        due(5, "no way", town("n3;011;s0").along(0, 2, 0), NONE);
        // Two ways of length 4 without crossings: roads 0, 3 and roads 1, 2; back they are 3, 0 and 2, 1.
        WalkingBus two = town("n4;012;022;232;132;s3");
        due(5, "the first as a row", two.along(0, 3, 0), 0);
        due(5, "its second", two.along(0, 3, 1), 3);
        due(5, "the first as a row back", two.along(3, 0, 0), 2);
        due(5, "its second back", two.along(3, 0, 1), 1);
        due(5, "roads side by side", town("n2;013;012;102;s0").along(1, 0, 0), 1);
    }

    private static void promise6() {
        WalkingBus x = town(FIVE);
        due(6, "no such corner", x.child(3, 5, 3, 61), UNKNOWN);
        due(6, "corner -1", x.child(0, -1, 5, 5), UNKNOWN);
        due(6, "kind 3", x.child(3, 0, 5, 5), OUTSIDE);
        due(6, "kind -1", x.child(-1, 0, 5, 5), OUTSIDE);
        due(6, "age 3", x.child(0, 0, 3, 5), OUTSIDE);
        due(6, "age 12", x.child(0, 0, 12, 5), OUTSIDE);
        due(6, "ready -1", x.child(0, 0, 5, -1), OUTSIDE);
        due(6, "ready 61", x.child(0, 0, 5, 61), OUTSIDE);
        for (int k = 0; k < 10; k++) {
            due(6, "numbered", x.child(k % 3, k % 5, k % 2 == 0 ? 4 : 11, k % 2 == 0 ? 0 : 60), k);
        }
        due(6, "an eleventh", x.child(0, 0, 5, 5), FULL);
        due(6, "outside ahead of full", x.child(0, 0, 3, 5), OUTSIDE);
        due(6, "ten", x.many(3), 10);
    }

    private static void promise7() {
        WalkingBus x = town(FIVE);
        x.child(2, 3, 7, 9);
        x.child(1, 0, 5, 0);
        x.child(0, 0, 8, 0);
        x.tie(0, 1, 1);
        x.tie(0, 2, 2);
        int[] parts = {2, 3, 7, 9, 3, 3, 2, 4};
        for (int what = 0; what < 8; what++) {
            due(7, "part " + what, x.ofChild(0, what), parts[what]);
        }
        due(7, "friends of the other", x.ofChild(1, 6), 1);
        due(7, "quarrels of the other", x.ofChild(2, 7), 1);
        due(7, "heads of a SLOW", x.ofChild(1, 5), 1);
        due(7, "part 8", x.ofChild(0, 8), OUTSIDE);
        due(7, "part -1", x.ofChild(0, -1), OUTSIDE);
        due(7, "child 3", x.ofChild(3, 8), UNKNOWN);
        due(7, "child -1", x.ofChild(-1, 0), UNKNOWN);
        int[] paces = {3, 3, 2, 2, 2, 1, 1, 1};
        for (int kind = 0; kind < 3; kind++) {
            WalkingBus y = town(FIVE);
            for (int age = 4; age <= 11; age++) {
                due(7, "pace at " + age, y.ofChild(y.child(kind, 0, age, 0), 4), paces[age - 4] + (kind > 0 ? 1 : 0));
            }
        }
    }

    private static void promise8() {
        WalkingBus x = town(FIVE);
        x.child(0, 0, 5, 7);
        due(8, "was", x.ready(0, 60), 7);
        due(8, "is", x.ofChild(0, 3), 60);
        due(8, "61", x.ready(0, 61), OUTSIDE);
        due(8, "-1", x.ready(0, -1), OUTSIDE);
        due(8, "no child", x.ready(1, 61), UNKNOWN);
        due(8, "it stays", x.ready(0, 0), 60);
    }

    private static void promise9() {
        WalkingBus x = town(FIVE);
        for (int k = 0; k < 3; k++) {
            x.child(0, 0, 5, 7);
        }
        due(9, "neither", x.tie(0, 1, 1), 0);
        due(9, "friends, either way", x.tie(1, 0, 2), 1);
        due(9, "quarrel", x.tie(0, 1, 2), 2);
        due(9, "no friends now", x.ofChild(0, 6), 0);
        due(9, "quarrel", x.tie(1, 0, 0), 2);
        due(9, "neither", x.tie(0, 1, 0), 0);
        due(9, "both are one", x.tie(1, 1, 1), OUTSIDE);
        due(9, "v 3", x.tie(0, 1, 3), OUTSIDE);
        due(9, "v -1", x.tie(0, 1, -1), OUTSIDE);
        due(9, "no such child", x.tie(0, 3, 3), UNKNOWN);
        due(9, "no such child, both one", x.tie(3, 3, 1), UNKNOWN);
    }

    // Child 0 (pace 2) waits at corner 0 from minute 5 on; its road takes 6 minutes, or 8 in 5 of 10 cases.
    private static WalkingBus short1() {
        WalkingBus x = town("n2;013c52;s1");
        x.child(0, 0, 6, 5);
        row(x, 1, 1, 0);
        return x;
    }

    private static void promise10() {
        WalkingBus x = short1();
        due(10, "by 11", x.late(1, 0, 0, 11, 1, 1, 0, 1, 0), 1);
        due(10, "by 11, lower", x.late(1, 0, 0, 11, 1, 1, 0, 1, 1), 2);
        due(10, "by 10", x.late(1, 0, 0, 10, 1, 1, 0, 1, 0), 1);
        due(10, "by 10, lower", x.late(1, 0, 0, 10, 1, 1, 0, 1, 1), 1);
        due(10, "by 13", x.late(1, 0, 0, 13, 1, 1, 0, 1, 0), 0);
        due(10, "by 13, lower", x.late(1, 0, 0, 13, 1, 1, 0, 1, 1), 1);
        due(10, "from minute 6 by 12", x.late(1, 0, 6, 12, 1, 1, 0, 1, 1), 2);
        // From corner 1 the crossing is gone without any child (3 minutes, or 5), then the line waits or not.
        due(10, "from corner 1 at 1", x.late(1, 1, 1, 12, 1, 1, 0, 1, 1), 2);
        due(10, "from corner 1 at 2", x.late(1, 1, 2, 12, 1, 1, 0, 1, 0), 3);
        due(10, "from corner 1 at 2, lower", x.late(1, 1, 2, 12, 1, 1, 0, 1, 1), 4);
        refusedLines(x);
        manyCrossings();
        // A wait at corner 1 swallows what the first crossing does: only the second one counts.
        WalkingBus y = town("n3;012c91;122c11;s2");
        y.child(0, 0, 9, 0);
        y.child(0, 1, 9, 30);
        row(y, 1, 0, 0, 1);
        due(10, "a wait", y.late(3, 0, 0, 32, 1, 0, 0, 2, 0), 1);
        due(10, "a wait, lower", y.late(3, 0, 0, 32, 1, 0, 0, 2, 1), 10);
        partialWaits();
        due(10, "all but one in hundred", y.late(3, 0, 30, 34, 1, 0, 0, 2, 0), 91);
        due(10, "all, of hundred", y.late(3, 0, 30, 34, 1, 0, 0, 2, 1), 100);
    }

    private static void partialWaits() {
        // Corner 3 is reached at 3, 4, 5, 6 in 1, 3, 3, 1 of 8 cases; who waits there until 4 has 4, 3, 1 left.
        WalkingBus x = town("n5;011c51;121c51;231c51;341;s4");
        x.child(0, 3, 9, 4);
        row(x, 1, 0, 3);
        int[] late = {8, 8, 4, 1, 0};
        for (int bell = 3; bell < 8; bell++) {
            long upper = x.late(1, 0, 0, bell, 1, 0, 0, 1, 0);
            long lower = x.late(1, 0, 0, bell, 1, 0, 0, 1, 1);
            due(10, "late by " + bell, upper * 8, late[bell - 3] * lower);
        }
        due(11, "mean", x.mean(1, 0, 0, 1, 0, 0, 1, 0) * 8, (4 * 5 + 3 * 6 + 7) * x.mean(1, 0, 0, 1, 0, 0, 1, 1));
        // From corner 3 back to 0 and again to the school: what was swallowed must not come back.
        x.child(0, 0, 9, 9);
        row(x, 1, 0, 3, 0);
        due(10, "all are there in time", x.late(3, 3, 0, 17, 1, 0, 0, 2, 0), 0);
        due(10, "all but the slowest case", x.late(3, 3, 0, 16, 1, 0, 0, 2, 1), 64);
        // At corner 0 by 9 in 7 of 8 cases, and then on without any delay in 1 of 8.
        due(10, "late by 13", x.late(3, 3, 0, 13, 1, 0, 0, 2, 0), 57);
        due(10, "of", x.late(3, 3, 0, 13, 1, 0, 0, 2, 1), 64);
        // From corner 0: at 3 by 4, 5, 6 in 4, 3, 1 of 8, so back at 0 by 9 in 28 + 12 + 1 of 64.
        due(10, "late by 13 from corner 0", x.late(3, 0, 0, 13, 1, 0, 0, 2, 0), 512 - 41);
        x.ready(0, 0);
        due(11, "ready at 0, at once", x.mean(1, 3, 0, 2, 0, 0, 1, 0), LOST);
        row(x, 2, 0, 3);
        due(11, "ready at 0, at once", x.mean(1, 3, 0, 2, 0, 0, 1, 0), 1);
    }

    private static void refusedLines(WalkingBus x) {
        int[][] lost = {{1, 0, 0, 11, 4, 1, 0, 1, 0}, {1, 2, 0, 11, 1, 1, 0, 1, 0}, {1, 0, 0, 11, 1, 3, 0, 1, 0},
            {0, 0, 0, 11, 1, 1, 0, 1, 0}, {2, 0, 0, 11, 1, 1, 0, 1, 0}, {3, 0, 0, 11, 1, 1, 0, 1, 0},
            {-1, 0, 0, 11, 1, 1, 0, 1, 0}, {1, 0, -1, 11, 1, 1, 0, 1, 0}, {1, 0, 201, 11, 1, 1, 0, 1, 0},
            {1, 0, 0, -1, 1, 1, 0, 1, 0}, {1, 0, 0, 201, 1, 1, 0, 1, 0}, {1, 0, 0, 11, 1, 1, 0, 1, 2},
            {1, 0, 0, 11, 1, 1, 0, 1, -1}, {1, 0, 0, 11, 1, 1, 0, 0, 0}};
        for (int[] a : lost) {
            // A fault that comes first must be forgotten by the refused call.
            x.put(1, -1, 0);
            due(10, "refused", x.late(a[0], a[1], a[2], a[3], a[4], a[5], a[6], a[7], a[8]), LOST);
            due(10, "without a fault", x.fault(), 0);
        }
        int[][] faults = {{2, 0, 0, 1, 1}, {2, 2, -1, -1, 1}, {1, 2, 0, 1, 2}, {1, 0, -1, -1, 2}, {1, 1, -1, -1, 4},
            {1, 1, 0, 2, 3}, {1, 1, 1, 1, 3}, {1, 1, -1, 1, 3}, {1, 1, 2, 0, 3}};
        for (int[] f : faults) {
            due(10, "a fault", x.late(1, 0, 0, 11, f[0], f[1], f[2], f[3], 0), LOST);
            due(10, "the fault", x.fault(), f[4]);
            due(11, "a fault", x.mean(1, 0, 0, f[0], f[1], f[2], f[3], 0), LOST);
            due(11, "the fault", x.fault(), f[4]);
        }
        int[][] rows = {{1}, {0, 0}, {-1}, {7}, {0, 1}, {Integer.MAX_VALUE}, {}};
        for (int[] cells : rows) {
            row(x, 3, 2, cells);
            due(10, "not its gates", x.late(1, 0, 0, 11, 3, 2, 0, cells.length, 0), LOST);
            due(10, "which is no fault", x.fault(), 0);
            due(11, "not its gates", x.mean(1, 0, 0, 3, 2, 0, cells.length, 0), LOST);
        }
        due(10, "outside ahead of faults", x.late(0, 0, 0, 11, 2, 0, 0, 1, 0), LOST);
        due(10, "so there is none", x.fault(), 0);
        due(10, "after all that", x.late(1, 0, 0, 11, 1, 1, 0, 1, 1), 2);
    }

    // A chain of six crossings: from its middle to one end, to the other one and back they are 15.
    private static WalkingBus chain() {
        WalkingBus x = town("n7;011c11;121c11;231c11;341c11;451c11;561c11;s0");
        x.child(0, 0, 9, 0);
        x.child(0, 6, 9, 0);
        x.child(0, 3, 9, 0);
        row(x, 1, 0, 0, 6, 3);
        return x;
    }

    private static void manyCrossings() {
        WalkingBus x = chain();
        due(10, "15 crossings", x.late(3, 3, 0, 15, 1, 0, 0, 2, 0), 794108867905351L);
        due(10, "15 crossings, lower", x.late(3, 3, 0, 15, 1, 0, 0, 2, 1), 1000000000000000L);
        due(11, "15 crossings", x.mean(3, 3, 0, 1, 0, 0, 2, 0), 33);
        due(11, "15 crossings, lower", x.mean(3, 3, 0, 1, 0, 0, 2, 1), 2);
        due(10, "17 crossings", x.late(3, 5, 0, 15, 1, 0, 0, 2, 0), LOST);
        due(11, "17 crossings", x.mean(3, 5, 0, 1, 0, 0, 2, 0), LOST);
        due(10, "three gates, 15", x.late(7, 3, 0, 150, 1, 0, 0, 3, 0), 0);
        due(10, "three gates, 16", x.late(7, 4, 0, 150, 1, 0, 0, 3, 0), LOST);
        WalkingBus slow = town("n7;011c59;121c59;231c59;341c59;451c59;561c59;s0");
        slow.child(0, 0, 9, 0);
        slow.child(0, 6, 9, 0);
        row(slow, 1, 0, 0, 6);
        due(10, "the last case", slow.late(3, 3, 0, 149, 1, 0, 0, 2, 1), 1 << 15);
        due(10, "the last case but not behind", slow.late(3, 3, 0, 150, 1, 0, 0, 2, 0), 0);
        // At corner 0 all delays are swallowed by a long wait; then twelve crossings more.
        slow.ready(0, 60);
        due(10, "after a long wait", slow.late(3, 3, 0, 60 + 12 + 107, 1, 0, 0, 2, 1), 1 << 12);
        due(10, "not later", slow.late(3, 3, 0, 60 + 12 + 108, 1, 0, 0, 2, 0), 0);
        WalkingBus parted = town("n4;011;231;s1");
        parted.child(0, 0, 9, 0);
        row(parted, 1, 0, 0);
        due(10, "no way to the gate", parted.late(1, 2, 0, 15, 1, 0, 0, 1, 0), LOST);
        due(10, "a way", parted.late(1, 1, 0, 15, 1, 0, 0, 1, 0), 0);
        WalkingBus away = town("n4;011;231;s2");
        away.child(0, 0, 9, 0);
        row(away, 1, 0, 0);
        due(10, "no way to the school", away.late(1, 0, 0, 15, 1, 0, 0, 1, 0), LOST);
        due(11, "no way to the school", away.mean(1, 0, 0, 1, 0, 0, 1, 0), LOST);
        due(11, "which is no fault", away.fault(), 0);
    }

    private static void promise11() {
        WalkingBus x = short1();
        due(11, "mean", x.mean(1, 0, 0, 1, 1, 0, 1, 0), 12);
        due(11, "lower", x.mean(1, 0, 0, 1, 1, 0, 1, 1), 1);
        // There at 5 or 7, at the school at 11, 13 or 13, 15: 13.
        due(11, "from corner 1 at 2", x.mean(1, 1, 2, 1, 1, 0, 1, 0), 13);
        int[][] lost = {{1, 0, 0, 4, 1, 0, 1, 0}, {1, 2, 0, 1, 1, 0, 1, 0}, {1, 0, 0, 1, 3, 0, 1, 0},
            {0, 0, 0, 1, 1, 0, 1, 0}, {2, 0, 0, 1, 1, 0, 1, 0}, {1, 0, -1, 1, 1, 0, 1, 0}, {1, 0, 201, 1, 1, 0, 1, 0},
            {1, 0, 0, 1, 1, 0, 1, 2}, {1, 0, 0, 1, 1, 0, 1, -1}};
        for (int[] a : lost) {
            x.put(1, -1, 0);
            due(11, "refused", x.mean(a[0], a[1], a[2], a[3], a[4], a[5], a[6], a[7]), LOST);
            due(11, "without a fault", x.fault(), 0);
        }
        due(11, "minute 200", x.mean(1, 0, 200, 1, 1, 0, 1, 0), 207);
        // The slowest one with it counts: to corner 1 at pace 1, from there on at pace 4.
        WalkingBus y = town("n4;015;125;235;s3");
        y.child(0, 1, 9, 0);
        y.child(1, 1, 4, 0);
        y.child(0, 2, 9, 0);
        row(y, 1, 2, 1, 2);
        due(11, "the slowest", y.mean(7, 0, 0, 1, 2, 0, 2, 0), 45);
        row(y, 1, 2, 2, 1);
        due(11, "the other order", y.mean(7, 0, 0, 1, 2, 0, 2, 0), 10 + 5 + 40);
    }

    private static void promise12() {
        WalkingBus x = short1();
        due(12, "by 11, half", x.start(1, 0, 11, 50), 5);
        due(12, "by 11, nearly half", x.start(1, 0, 11, 49), NONE);
        due(12, "by 13, never late", x.start(1, 0, 13, 0), 5);
        due(12, "by 20, never late", x.start(1, 0, 20, 0), 12);
        due(12, "by 20, half", x.start(1, 0, 20, 50), 14);
        due(12, "by 20, always", x.start(1, 0, 20, 100), 20);
        due(12, "by 0, always", x.start(1, 0, 0, 100), 0);
        due(12, "by 200", x.start(1, 0, 200, 0), 192);
        due(12, "corner 2", x.start(0, 2, 201, 101), UNKNOWN);
        due(12, "corner -1", x.start(1, -1, 20, 0), UNKNOWN);
        for (int set : new int[] {0, 2, 3, -1, 1 << 10, Integer.MIN_VALUE, Integer.MAX_VALUE}) {
            due(12, "set " + set, x.start(set, 0, 20, 0), OUTSIDE);
        }
        due(12, "bell 201", x.start(1, 0, 201, 0), OUTSIDE);
        due(12, "bell -1", x.start(1, 0, -1, 0), OUTSIDE);
        due(12, "h 101", x.start(1, 0, 20, 101), OUTSIDE);
        due(12, "h -1", x.start(1, 0, 20, -1), OUTSIDE);
        WalkingBus chain = chain();
        due(12, "15 crossings on one order", chain.start(3, 3, 200, 0), 200 - 9 - 9);
        due(12, "17 crossings on an order", chain.start(3, 5, 200, 0), STATE);
        due(12, "outside ahead of state", chain.start(3, 5, 201, 0), OUTSIDE);
        WalkingBus parted = town("n4;011;231;s1");
        parted.child(0, 0, 9, 0);
        parted.child(0, 2, 9, 0);
        due(12, "no way", parted.start(1, 2, 99, 0), STATE);
        due(12, "no way to a gate", parted.start(3, 0, 99, 0), STATE);
        due(12, "ways", parted.start(1, 1, 99, 0), 97);
        WalkingBus five = town("n6;011;121;231;341;451;s5");
        for (int corner = 0; corner < 5; corner++) {
            five.child(0, corner, 9, 0);
        }
        due(12, "five gates", five.start(31, 0, 99, 0), STATE);
        due(12, "four gates", five.start(15, 0, 99, 0), 94);
    }

    private static void promise13() {
        // From corner 1: gates 0 and 2, the school at 3; first 0 and then 2 is shorter by far.
        WalkingBus x = town("n4;012;123;235;s3");
        x.child(0, 0, 9, 0);
        x.child(0, 2, 9, 0);
        due(13, "start", x.start(3, 1, 100, 0), 100 - 2 - 5 - 5);
        due(13, "first", x.gate(3, 1, 100, 0, 0), 0);
        due(13, "second", x.gate(3, 1, 100, 0, 1), 2);
        due(13, "third", x.gate(3, 1, 100, 0, 2), NONE);
        due(13, "fourth", x.gate(3, 1, 100, 0, 3), NONE);
        due(13, "none", x.gate(3, 1, 5, 0, 0), NONE);
        // From corner 2 on, 0 and then 2 takes 5, 5, 5; 2 and then 0 takes 0, 5, 10: the same.
        due(13, "of several the first", x.gate(3, 2, 100, 0, 0), 0);
        x.ready(0, 30);
        x.ready(1, 40);
        due(13, "by 45", x.gate(3, 1, 45, 0, 1), 2);
        due(13, "all are late", x.gate(3, 1, 44, 0, 0), NONE);
        due(13, "all may be late", x.gate(3, 1, 44, 100, 0), 0);
        due(13, "k 4", x.gate(3, 1, 201, 0, 4), UNKNOWN);
        due(13, "k -1", x.gate(0, 1, 45, 0, -1), UNKNOWN);
        due(13, "corner 4", x.gate(3, 4, 201, 0, 0), UNKNOWN);
        due(13, "set", x.gate(4, 1, 45, 0, 0), OUTSIDE);
        due(13, "bell", x.gate(3, 1, 201, 0, 0), OUTSIDE);
        due(13, "h", x.gate(3, 1, 45, 101, 0), OUTSIDE);
        due(13, "state", chain().gate(3, 5, 200, 0, 0), STATE);
        // Along a chain to the school at its end: the last of all orders is the best one.
        WalkingBus chain = town("n4;013;123;233;s0");
        for (int corner = 0; corner < 4; corner++) {
            chain.child(0, corner, 9, 0);
        }
        for (int k = 0; k < 4; k++) {
            due(13, "the last order", chain.gate(15, 3, 50, 0, k), 3 - k);
        }
        due(13, "its start", chain.start(15, 3, 50, 0), 41);
        // The later start may be by an order that is not the first: 2 is ready first, 0 last.
        WalkingBus y = town("n4;012;022;123;032;s3");
        y.child(0, 1, 9, 0);
        y.child(0, 2, 4, 0);
        due(13, "the slow one last", y.gate(3, 0, 100, 0, 0), 1);
        due(13, "start", y.start(3, 0, 100, 0), 100 - 2 - 3 - 3 * 4);
    }

    private static void promise14() {
        WalkingBus x = new WalkingBus();
        due(14, "at first", x.holds(1), 6);
        due(14, "then", x.holds(9), 1);
        due(14, "0", x.holds(0), OUTSIDE);
        due(14, "10", x.holds(10), OUTSIDE);
        due(14, "it stays", x.holds(9), 9);
        for (int far : FAR) {
            due(14, "far", x.holds(far), OUTSIDE);
        }
    }

    private static void promise15() {
        WalkingBus x = town(FIVE);
        x.child(0, 0, 5, 0);
        x.child(1, 0, 5, 0);
        x.child(2, 0, 5, 0);
        due(15, "one", x.grown(1), 1);
        x.holds(4);
        due(15, "five heads by four", x.grown(7), 2);
        due(15, "four heads by four", x.grown(5), 1);
        x.holds(1);
        due(15, "HELD", x.grown(4), 3);
        due(15, "SLOW", x.grown(2), 1);
        for (int k = 3; k < 10; k++) {
            x.child(0, 0, 5, 0);
            x.tie(k, k - 1, 1);
        }
        due(15, "ten children", x.grown(1023), 12);
        due(34, "seven pairs", x.many(5), 7);
        for (int set : new int[] {0, 1024, 1025, -1, Integer.MIN_VALUE}) {
            due(15, "set", x.grown(set), OUTSIDE);
        }
    }

    private static void promise16() {
        WalkingBus x = town("n2;013c52;s1");
        for (int k = 0; k < 7; k++) {
            x.child(0, 0, k == 1 ? 4 : 9, 0);
        }
        // The slow one alone takes 9 (or 11), the others 3 (or 5); all together 9 (or 11).
        due(16, "of 1, 6 and 5, 2 the first", x.split(7, 0, 100, 0, 0), 1);
        due(16, "grown", x.split(7, 0, 100, 0, 1), 2);
        due(16, "starts", x.split(7, 0, 100, 0, 2), 95 + 89);
        due(16, "saved", x.split(7, 0, 100, 0, 3), 1);
        x.holds(1);
        due(16, "saved by none", x.split(7, 0, 100, 0, 3), 0);
        x.holds(3);
        due(16, "of several the least set", x.split(1 | 4 | 8, 0, 100, 0, 0), 1);
        // Of six by three the fewest are two grown ones: three children each.
        due(16, "fewest grown ones first", x.split(63, 0, 100, 0, 1), 2);
        due(16, "then the least set", x.split(63, 0, 100, 0, 0), 7);
        due(16, "none is ready in time", x.split(7, 0, 10, 0, 0), NONE);
        due(16, "always", x.split(7, 0, 10, 100, 2), 20);
        WalkingBus y = town("n2;013;s1");
        y.child(0, 0, 4, 0);
        y.child(0, 0, 9, 0);
        y.child(0, 0, 4, 0);
        due(16, "the greatest sum", y.split(7, 0, 100, 0, 0), 5);
        due(16, "its sum", y.split(7, 0, 100, 0, 2), 91 + 97);
        due(16, "corner", x.split(0, 2, 201, 101, 4), UNKNOWN);
        due(16, "one child", x.split(1, 0, 100, 0, 0), OUTSIDE);
        due(16, "seven children", x.split(127, 0, 100, 0, 0), OUTSIDE);
        due(16, "six children", x.split(63, 0, 100, 0, 0), 7);
        due(16, "a bit of none", x.split(1 | 128, 0, 100, 0, 0), OUTSIDE);
        due(16, "bell", x.split(7, 0, 201, 0, 0), OUTSIDE);
        due(16, "h", x.split(7, 0, 100, -1, 0), OUTSIDE);
        due(16, "what 4", x.split(7, 0, 100, 0, 4), OUTSIDE);
        due(16, "what -1", x.split(7, 0, 100, 0, -1), OUTSIDE);
        due(16, "state", chain().split(3, 5, 100, 0, 0), STATE);
        due(16, "outside ahead of state", chain().split(3, 5, 100, 0, 9), OUTSIDE);
        tooManyCrossingsOfAPart();
        WalkingBus held = town("n2;013c52;s1");
        held.child(0, 0, 9, 0);
        held.child(2, 0, 9, 0);
        held.child(0, 0, 9, 0);
        held.holds(3);
        due(16, "the HELD one by itself", held.split(7, 0, 100, 0, 0), 5);
        due(16, "two grown ones, as for one line", held.split(7, 0, 100, 0, 3), 0);
        held.holds(1);
        due(16, "the best sum", held.split(7, 0, 100, 0, 2), 100 - 5 + 100 - 8);
        due(16, "the least set of it", held.split(7, 0, 100, 0, 0), 1);
        due(16, "with HELD and number 2", held.split(6, 0, 100, 0, 0), 2);
    }

    private static void tooManyCrossingsOfAPart() {
        // Gates 5, 0, 4 alone have an order with 18 crossings; with 6 among them no order has more than 15.
        WalkingBus x = town("n7;011c11;121c11;231c11;341c11;451c11;0610;5610;s0");
        x.child(0, 5, 9, 0);
        x.child(0, 0, 9, 0);
        x.child(0, 4, 9, 0);
        x.child(2, 6, 9, 0);
        x.holds(3);
        due(12, "the whole", x.start(15, 0, 200, 100), 200);
        due(12, "the part", x.start(7, 0, 200, 100), STATE);
        due(16, "two grown ones would be enough", x.split(15, 0, 200, 100, 1), 3);
        due(16, "the least set", x.split(15, 0, 200, 100, 0), 1);
    }

    private static WalkingBus kids(int... ages) {
        WalkingBus x = town(FIVE);
        for (int age : ages) {
            x.child(0, 0, age, 0);
        }
        return x;
    }

    private static void promise17() {
        WalkingBus x = kids(4, 5, 6, 7, 8, 9, 10, 11, 4, 4);
        due(17, "one", x.ways(1, 11), 1);
        due(17, "two", x.ways(3, 4), 2);
        due(17, "two, one may be by the road", x.ways(3, 5), 1);
        due(17, "none may", x.ways(3, 6), 0);
        due(17, "eight", x.ways(255, 4), 40320);
        due(17, "nine", x.ways(511, 4), LOST);
        due(17, "empty", x.ways(0, 4), LOST);
        due(17, "r 3", x.ways(1, 3), LOST);
        due(17, "r 12", x.ways(1, 12), LOST);
        due(17, "a bit of none", kids(4).ways(2, 4), LOST);
        x.tie(0, 1, 2);
        due(17, "a quarrel in one row", x.ways(3, 4), 0);
        // Three: rows (a, b), (empty, c): b and c, a and b may not quarrel.
        due(17, "three", x.ways(7, 4), 2);
        // Four: 0 and 1 not beside, nor behind: they are across.
        due(17, "four", x.ways(15, 4), 8);
        x.tie(0, 1, 1);
        due(17, "friends are free", x.ways(15, 4), 24);
        WalkingBus y = kids(9, 9, 9, 9, 9, 9);
        y.tie(0, 1, 2);
        due(17, "first and last row are not near", y.ways(63, 4), 720 - 7 * 2 * 24);
    }

    private static void promise18() {
        WalkingBus x = kids(4, 5, 6, 7, 8, 9, 10, 11, 9);
        x.tie(0, 7, 1);
        x.tie(1, 2, 1);
        due(18, "rows", x.friendly(255, 4, -1), 2);
        int[] loops = {0, 7, 1, 2, 3, 4, 5, 6};
        for (int k = 0; k < 8; k++) {
            due(18, "loop " + k, x.friendly(255, 4, k), loops[k]);
        }
        int[] three = {0, 7, NONE, 3, NONE, NONE, NONE, NONE};
        for (int k = 0; k < 8; k++) {
            due(18, "of three, loop " + k, x.friendly(1 | 8 | 128, 4, k), three[k]);
        }
        due(18, "the older by the road", x.friendly(1 | 8 | 128, 8, 0), 7);
        due(18, "rows then", x.friendly(1 | 8 | 128, 8, -1), 1);
        due(18, "one", x.friendly(4, 11, 0), NONE);
        due(18, "one by the houses", x.friendly(4, 11, 1), 2);
        due(18, "one: no friends", x.friendly(4, 11, -1), 0);
        due(18, "no ways", x.friendly(3, 6, -1), NONE);
        due(18, "no ways, loop 0", x.friendly(3, 6, 0), NONE);
        due(18, "k 8", x.friendly(3, 4, 8), UNKNOWN);
        due(18, "k -2", x.friendly(3, 4, -2), UNKNOWN);
        due(18, "outside ahead of k", x.friendly(0, 4, 8), OUTSIDE);
        due(18, "nine", x.friendly(511, 4, 0), OUTSIDE);
        due(18, "r 3", x.friendly(3, 3, 0), OUTSIDE);
        due(18, "r 12", x.friendly(3, 12, 0), OUTSIDE);
        x.tie(2, 3, 2);
        // Now 2 may not sit before 3: the row of friends 1, 2 and then 4, 3.
        int[] parted = {1, 2, 3, 4};
        for (int k = 0; k < 4; k++) {
            due(18, "parted, loop " + k, x.friendly(2 | 4 | 8 | 16, 4, k), parted[k]);
        }
        WalkingBus y = kids(9, 9, 9, 9);
        y.tie(1, 2, 1);
        int[] pair = {0, 3, 1, 2};
        for (int k = 0; k < 4; k++) {
            due(18, "one pair, loop " + k, y.friendly(15, 4, k), pair[k]);
        }
        y.tie(0, 3, 1);
        due(18, "two pairs", y.friendly(15, 4, -1), 2);
        WalkingBus z = kids(5, 5, 9, 9);
        z.tie(0, 1, 1);
        z.tie(2, 3, 1);
        int[] apart = {2, 0, 3, 1};
        for (int k = 0; k < 4; k++) {
            due(18, "friends on one side, loop " + k, z.friendly(15, 8, k), apart[k]);
        }
        due(18, "no rows of friends", z.friendly(15, 8, -1), 0);
        x.tie(1, 3, 2);
        due(18, "both quarrel with 3", x.friendly(2 | 4 | 8 | 16, 4, -1), NONE);
    }

    private static void promise19() {
        WalkingBus x = new WalkingBus();
        // 321: weight 1 in time, 2 by one minute, 3 by two.
        due(19, "k 0", x.loss(321, 2, 10, 0, 0), 25);
        due(19, "k 0, lower", x.loss(321, 2, 10, 0, 1), 3);
        due(19, "k 1", x.loss(321, 2, 10, 1, 0), (2 * 2 + 3 * 12) / 2);
        due(19, "k 2", x.loss(321, 2, 10, 2, 0), 8);
        due(19, "k 2, lower", x.loss(321, 2, 10, 2, 1), 3);
        due(19, "k 9", x.loss(321, 2, 10, 9, 1), 3);
        due(19, "no loss", x.loss(1, 9, 99, 0, 0), 0);
        due(19, "no loss, lower", x.loss(9, 9, 99, 9, 1), 1);
        due(19, "the highest figure", x.loss(10000000, 9, 99, 7, 0), 63);
        due(19, "just left", x.loss(10000000, 9, 99, 6, 0), 153);
        int[][] lost = {{0, 1, 0, 0, 0}, {100000000, 1, 0, 0, 0}, {-1, 1, 0, 0, 0}, {1, 0, 0, 0, 0}, {1, 10, 0, 0, 0},
            {1, 1, -1, 0, 0}, {1, 1, 100, 0, 0}, {1, 1, 0, -1, 0}, {1, 1, 0, 10, 0}, {1, 1, 0, 0, -1}, {1, 1, 0, 0, 2}};
        for (int[] a : lost) {
            due(19, "outside", x.loss(a[0], a[1], a[2], a[3], a[4]), LOST);
        }
        due(19, "the most", x.loss(99999999, 9, 99, 9, 0), 63);
    }

    private static void promise20() {
        WalkingBus x = new WalkingBus();
        due(20, "two minutes", x.patience(321, 2, 10), 2);
        due(20, "one minute", x.patience(11, 1, 5), 1);
        due(20, "no cost", x.patience(11, 1, 0), 0);
        due(20, "not at all", x.patience(321, 9, 1), 0);
        due(20, "of several the least", x.patience(1, 9, 99), 0);
        due(20, "12, 12 and then 9", x.patience(111, 3, 6), 2);
        due(20, "6, 9 and then 9", x.patience(111, 3, 3), 0);
        due(20, "to the last", x.patience(10000000, 1, 99), 7);
        due(20, "all the same", x.patience(10, 5, 5), 0);
        int[][] outside = {{0, 1, 0}, {100000000, 1, 0}, {1, 0, 0}, {1, 10, 0}, {1, 1, -1}, {1, 1, 100}};
        for (int[] a : outside) {
            due(20, "outside", x.patience(a[0], a[1], a[2]), OUTSIDE);
        }
    }

    private static void promise21() {
        WalkingBus x = new WalkingBus();
        due(21, "32", x.helper(32), OUTSIDE);
        due(21, "-1", x.helper(-1), OUTSIDE);
        for (int k = 0; k < 5; k++) {
            due(21, "numbered", x.helper(k * 7), k);
        }
        due(21, "a sixth", x.helper(1), FULL);
        due(21, "outside ahead of full", x.helper(32), OUTSIDE);
        due(21, "five", x.many(4), 5);
    }

    private static void promise22() {
        WalkingBus x = new WalkingBus();
        due(22, "no helper", x.days(0, 32), UNKNOWN);
        x.helper(5);
        due(22, "was", x.days(0, 31), 5);
        due(22, "32", x.days(0, 32), OUTSIDE);
        due(22, "-1", x.days(0, -1), OUTSIDE);
        due(22, "helper 1", x.days(1, 0), UNKNOWN);
        due(22, "helper -1", x.days(-1, 0), UNKNOWN);
        due(22, "it stays", x.days(0, 0), 31);
    }

    private static void promise23() {
        WalkingBus x = new WalkingBus();
        due(23, "nobody is needed", x.week(0, -1), 0);
        due(23, "nobody", x.week(1, -1), NONE);
        due(23, "nobody, day 0", x.week(1, 0), NONE);
        x.helper(31);
        due(23, "one for all", x.week(1, -1), 5);
        x.helper(31);
        due(23, "two", x.week(1, -1), 3);
        int[] two = {1, 1, 1, 2, 2};
        for (int day = 0; day < 5; day++) {
            due(23, "the first as a row", x.week(1, day), two[day]);
        }
        due(23, "both each day", x.week(2, 4), 3);
        due(23, "both", x.week(2, -1), 5);
        due(23, "three of two", x.week(3, -1), NONE);
        x.days(0, 16);
        int[] last = {2, 2, 2, 2, 1};
        for (int day = 0; day < 5; day++) {
            due(23, "the last day", x.week(1, day), last[day]);
        }
        due(23, "most days", x.week(1, -1), 4);
        x.helper(31);
        x.helper(31);
        x.helper(31);
        due(23, "five", x.week(1, -1), 1);
        int[] five = {2, 4, 8, 16, 1};
        for (int day = 0; day < 5; day++) {
            due(23, "one each", x.week(1, day), five[day]);
        }
        due(23, "three of five", x.week(3, -1), 4);
        due(23, "three of five, day 0", x.week(3, 0), 2 + 4 + 8);
        due(23, "k 5", x.week(1, 5), UNKNOWN);
        due(23, "k -2", x.week(1, -2), UNKNOWN);
        due(23, "need 4", x.week(4, 5), OUTSIDE);
        due(23, "need -1", x.week(-1, 0), OUTSIDE);
    }

    private static void promise24() {
        WalkingBus x = new WalkingBus();
        due(24, "bytes", x.sheet(0, 0, 3), 1);
        x.put(0, 2, 9);
        due(24, "below 0", x.sheet(0, 1, -1), SIZE);
        due(24, "its fault", x.fault(), 4);
        due(24, "the old row stays", x.cell(0, 2, 0), 9);
        due(24, "101", x.sheet(0, 0, 101), OUTSIDE);
        due(24, "sort 3", x.sheet(0, 3, -1), OUTSIDE);
        due(24, "refused: no fault", x.fault(), 0);
        due(24, "sheet 4", x.sheet(4, 3, 101), UNKNOWN);
        due(24, "sheet -1", x.sheet(-1, 0, 1), UNKNOWN);
        due(24, "a new row", x.sheet(0, 2, 100), 1);
        due(24, "all 0", x.cell(0, 2, 2), 0);
        x.put(0, 0, 7);
        due(24, "anew", x.sheet(0, 2, 100), 1);
        due(24, "the first cell", x.cell(0, 0, 2), 0);
        due(24, "the last cell", x.cell(0, 99, 2), 0);
        due(24, "no cells", x.sheet(0, 2, 0), 1);
        due(24, "no cell", x.put(0, 0, 1), INDEX);
        due(24, "but a row", x.lose(0), 1);
        for (int far : FAR) {
            due(24, "far", x.sheet(far, 0, 0), UNKNOWN);
            due(24, "far", x.sheet(0, far, 0), OUTSIDE);
            due(24, "far", x.sheet(0, 0, far), far < 0 ? SIZE : OUTSIDE);
        }
    }

    private static void promise25() {
        WalkingBus x = new WalkingBus();
        due(25, "nothing", x.lose(3), 0);
        x.sheet(3, 0, 1);
        due(25, "a row", x.lose(3), 1);
        due(25, "nothing", x.lose(3), 0);
        due(25, "gone", x.put(3, 0, 1), NULL);
        due(25, "sheet 4", x.lose(4), UNKNOWN);
        due(25, "lose names no fault", x.fault(), 1);
    }

    private static void promise26() {
        WalkingBus x = new WalkingBus();
        due(26, "nothing", x.put(0, -1, 1), NULL);
        due(26, "its fault", x.fault(), 1);
        x.sheet(0, 0, 2);
        x.sheet(1, 1, 2);
        x.sheet(2, 2, 2);
        due(26, "put", x.put(0, 0, 128), 1);
        due(26, "no fault", x.fault(), 0);
        due(26, "cut to a byte", x.cell(0, 0, 0), -128);
        x.put(0, 1, -129);
        due(26, "cut to a byte", x.cell(0, 1, 0), 127);
        x.put(1, 1, 32768);
        due(26, "cut to a short", x.cell(1, 1, 1), -32768);
        x.put(2, 1, Integer.MIN_VALUE);
        due(26, "an int", x.cell(2, 1, 2), Integer.MIN_VALUE);
        due(26, "beyond", x.put(0, 2, 1), INDEX);
        due(26, "its fault", x.fault(), 3);
        due(26, "below 0", x.put(0, -1, 1), INDEX);
        due(26, "sheet 4", x.put(4, 0, 1), UNKNOWN);
        due(26, "refused: no fault", x.fault(), 0);
    }

    private static void promise27() {
        WalkingBus x = new WalkingBus();
        due(27, "nothing is no cast", x.cell(0, -1, 2), LOST);
        due(27, "its fault", x.fault(), 1);
        x.sheet(0, 1, 2);
        x.put(0, 1, -7);
        due(27, "cell", x.cell(0, 1, 1), -7);
        due(27, "no fault", x.fault(), 0);
        due(27, "cast ahead of index", x.cell(0, 2, 0), LOST);
        due(27, "its fault", x.fault(), 2);
        due(27, "index", x.cell(0, 2, 1), LOST);
        due(27, "its fault", x.fault(), 3);
        due(27, "sort 3", x.cell(0, 2, 3), LOST);
        due(27, "refused: no fault", x.fault(), 0);
        due(27, "below 0", x.cell(0, -1, 1), LOST);
        due(27, "sheet 4", x.cell(4, 0, 1), LOST);
        due(27, "refused: no fault", x.fault(), 0);
    }

    private static void promise28() {
        WalkingBus x = new WalkingBus();
        row(x, 0, 0, 1, 2, 3, 4, 5);
        row(x, 1, 1, 0);
        row(x, 2, 0, 9, 9);
        due(28, "to the same", x.copy(0, 0, 0, 1, 4), 4);
        int[] moved = {1, 1, 2, 3, 4};
        for (int i = 0; i < 5; i++) {
            due(28, "as they were", x.cell(0, i, 0), moved[i]);
        }
        due(28, "to another", x.copy(0, 3, 2, 0, 2), 2);
        due(28, "came", x.cell(2, 0, 0), 3);
        due(28, "came", x.cell(2, 1, 0), 4);
        due(28, "none", x.copy(0, 5, 2, 2, 0), 0);
        due(28, "none from beyond", x.copy(0, 6, 2, 2, 0), INDEX);
        due(28, "none to beyond", x.copy(0, 5, 2, 3, 0), INDEX);
        due(28, "too many of the first", x.copy(0, 4, 0, 0, 2), INDEX);
        due(28, "too many of the other", x.copy(0, 0, 2, 1, 2), INDEX);
        due(28, "its fault", x.fault(), 3);
        due(28, "i -1", x.copy(0, -1, 2, 0, 1), INDEX);
        due(28, "j -1", x.copy(0, 0, 2, -1, 1), INDEX);
        due(28, "n -1", x.copy(0, 0, 2, 0, -1), INDEX);
        due(28, "far", x.copy(0, 1, 2, 1, Integer.MAX_VALUE), INDEX);
        due(28, "far", x.copy(0, Integer.MAX_VALUE, 2, 1, 1), INDEX);
        due(28, "far", x.copy(0, Integer.MIN_VALUE, 2, 1, Integer.MIN_VALUE), INDEX);
        due(28, "unlike sorts ahead of index", x.copy(0, -1, 1, 0, 1), CAST);
        due(28, "its fault", x.fault(), 2);
        due(28, "nothing in the other", x.copy(0, -1, 3, 0, 1), NULL);
        due(28, "nothing in the first", x.copy(3, 0, 0, 0, 1), NULL);
        due(28, "its fault", x.fault(), 1);
        due(28, "sheet 4", x.copy(4, 0, 3, 0, 1), UNKNOWN);
        due(28, "sheet -1", x.copy(3, 0, -1, 0, 1), UNKNOWN);
        due(28, "refused: no fault", x.fault(), 0);
    }

    private static WalkingBus parts() {
        WalkingBus x = town(FIVE);
        x.child(0, 0, 7, 0);
        x.child(1, 0, 8, 0);
        x.child(2, 0, 9, 0);
        return x;
    }

    private static void promise29() {
        WalkingBus x = parts();
        due(29, "CHILD", x.tell(0), 7);
        due(32, "CHILD", x.trace(), 1);
        due(29, "SLOW", x.tell(1), 108);
        due(32, "SLOW", x.trace(), (1 * 31 + 2) * 31 + 1);
        x = parts();
        due(29, "HELD", x.tell(2), 118);
        due(32, "HELD", x.trace(), ((3 * 31 + 2) * 31 + 1) * 31 + 1);
        due(29, "no child", x.tell(3), UNKNOWN);
        due(29, "no child", x.tell(-1), UNKNOWN);
    }

    private static void promise30() {
        WalkingBus x = parts();
        due(30, "CHILD", x.tag(0), 0);
        due(30, "SLOW", x.tag(1), 1);
        due(32, "lent", x.trace(), 4 * 31 + 4);
        due(30, "HELD", x.tag(2), 60);
        due(32, "its own", x.trace(), (4 * 31 + 4) * 31 + 5);
        due(30, "no child", x.tag(3), UNKNOWN);
        due(32, "a refusal leaves none", x.trace(), (4 * 31 + 4) * 31 + 5);
    }

    private static void promise31() {
        WalkingBus x = parts();
        for (int k = 0; k < 3; k++) {
            for (int kind = 0; kind < 3; kind++) {
                due(31, "as", x.as(k, kind), kind <= k ? 1 : CAST);
                due(31, "fault", x.fault(), kind <= k ? 0 : 2);
            }
        }
        x.as(0, 2);
        due(31, "kind 3", x.as(0, 3), OUTSIDE);
        due(31, "refused: no fault", x.fault(), 0);
        due(31, "kind -1", x.as(0, -1), OUTSIDE);
        due(31, "no child", x.as(3, 3), UNKNOWN);
    }

    private static void promise32() {
        WalkingBus x = parts();
        int trace = 0;
        for (int k = 0; k < 20; k++) {
            x.tag(0);
            trace = trace * 31 + 4;
        }
        due(32, "an int that wraps", x.trace(), trace);
        due(32, "as() leaves none", x.as(2, 1), 1);
        due(32, "it stays", x.trace(), trace);
    }

    private static void promise33() {
        WalkingBus x = new WalkingBus();
        due(33, "ahead of any", x.fault(), 0);
        x.put(0, 0, 0);
        due(33, "put", x.fault(), 1);
        x.many(0);
        x.lose(4);
        x.tell(0);
        x.grown(0);
        due(33, "calls that name none", x.fault(), 1);
        due(33, "asked again", x.fault(), 1);
        x.sheet(0, 0, 4);
        due(33, "came to none", x.fault(), 0);
        x.sheet(0, 0, -4);
        due(33, "sheet", x.fault(), 4);
        x.as(0, 0);
        due(33, "refused", x.fault(), 0);
        x.put(0, 4, 0);
        x.streets(0, 0, 0, 4);
        due(33, "a text with a fault is none of the machine", x.fault(), 0);
    }

    private static void promise34() {
        WalkingBus x = town(FIVE);
        for (int k = 0; k < 4; k++) {
            x.child(0, 0, 5, 0);
        }
        x.helper(0);
        x.tie(0, 1, 1);
        x.tie(2, 1, 1);
        x.tie(0, 2, 1);
        x.tie(3, 1, 2);
        int[] due = {5, 5, 2, 4, 1, 3, 1};
        for (int what = 0; what < 7; what++) {
            due(34, "many " + what, x.many(what), due[what]);
        }
        due(34, "what 7", x.many(7), OUTSIDE);
        due(34, "what -1", x.many(-1), OUTSIDE);
        for (int far : FAR) {
            due(34, "far", x.many(far), OUTSIDE);
        }
    }

    public static void main(String[] args) {
        promise1();
        promise2();
        promise3();
        promise4();
        promise5();
        promise6();
        promise7();
        promise8();
        promise9();
        promise10();
        promise11();
        promise12();
        promise13();
        promise14();
        promise15();
        promise16();
        promise17();
        promise18();
        promise19();
        promise20();
        promise21();
        promise22();
        promise23();
        promise24();
        promise25();
        promise26();
        promise27();
        promise28();
        promise29();
        promise30();
        promise31();
        promise32();
        promise33();
        promise34();
        System.out.println(right + " answers are due, " + wrong + " are not");
        if (wrong != 0) {
            System.exit(1);
        }
    }
}
