/** Promises 10 to 13: each sentence of the document that names an edge. */
public final class EdgesOfLinesTest {
    private static final int UNKNOWN = Due.UNKNOWN, OUTSIDE = Due.OUTSIDE, STATE = Due.STATE, NONE = Due.NONE;
    private static final long LOST = Due.LOST;

    private static int rowOfGates = 1;

    /** LATE by sheet 1, a row of bytes, is such a share. */
    private static void late(WalkingBus x, int set, int corner, int m, int bell, long upper, long lower) {
        String what = "late from " + corner + " at " + m + " by " + bell;
        Due.is(what, x.late(set, corner, m, bell, 1, 0, 0, rowOfGates, 0), upper);
        Due.is(what + ", lower", x.late(set, corner, m, bell, 1, 0, 0, rowOfGates, 1), lower);
    }

    private static void mean(WalkingBus x, int set, int corner, int m, long upper, long lower) {
        String what = "mean from " + corner + " at " + m;
        Due.is(what, x.mean(set, corner, m, 1, 0, 0, rowOfGates, 0), upper);
        Due.is(what + ", lower", x.mean(set, corner, m, 1, 0, 0, rowOfGates, 1), lower);
    }

    private static void order(WalkingBus x, int... corners) {
        rowOfGates = corners.length;
        Due.row(x, 1, 0, corners);
    }

    /** Child 0 (pace 1) at corner 0; to the school at corner 2 it takes 5 minutes, or 6 in 3 of 10 cases. */
    private static WalkingBus alone() {
        WalkingBus x = Due.town("n3;013;122c31;s2");
        x.child(0, 0, 9, 0);
        order(x, 0);
        return x;
    }

    // ---- promises 10 and 11: what a line does

    private static void shares() {
        Due.sentence(10, "the share of cases in which it is at the SCHOOL behind a minute BELL");
        WalkingBus x = alone();
        late(x, 1, 0, 0, 4, 1, 1);
        late(x, 1, 0, 0, 5, 3, 10);
        late(x, 1, 0, 0, 6, 0, 1);
        late(x, 1, 0, 1, 5, 1, 1);
        late(x, 1, 0, 1, 6, 3, 10);
        late(x, 1, 0, 1, 7, 0, 1);
        Due.sentence(10, "Shares are told as upper and lower number (above 0) in least terms");
        int[][] least = {{1, 1, 10}, {2, 1, 5}, {3, 3, 10}, {4, 2, 5}, {5, 1, 2}, {6, 3, 5}, {7, 7, 10}, {8, 4, 5}, {9, 9, 10}};
        for (int[] odds : least) {
            WalkingBus y = Due.town("n2;011c" + odds[0] + "1;s1");
            y.child(0, 0, 9, 0);
            order(y, 0);
            late(y, 1, 0, 0, 1, odds[1], odds[2]);
            mean(y, 1, 0, 0, odds[1] + odds[2], odds[2]);
            late(y, 1, 0, 0, 0, 1, 1);
            late(y, 1, 0, 0, 2, 0, 1);
        }
        Due.sentence(11, "the mean of the minute at which it is there (0 over 1, if it is there at minute 0)");
        WalkingBus z = Due.town("n2;011;s0");
        z.child(0, 0, 9, 0);
        order(z, 0);
        mean(z, 1, 0, 0, 0, 1);
        late(z, 1, 0, 0, 0, 0, 1);
        mean(x, 1, 0, 0, 53, 10);
        mean(x, 1, 0, 200, 2053, 10);
    }

    private static void minutes() {
        Due.sentence(10, "a LINE from a CORNER at minute m (0 .. 200)");
        WalkingBus x = alone();
        late(x, 1, 0, 0, 200, 0, 1);
        late(x, 1, 0, 200, 200, 1, 1);
        late(x, 1, 0, 195, 200, 3, 10);
        late(x, 1, 0, 194, 200, 0, 1);
        mean(x, 1, 0, 199, 2043, 10);
        for (int m : Due.beyond(0, 200)) {
            Due.refusedAndCleared("late at " + m, y -> y.late(7, 0, m, 9, 0, 0, 0, 3, 0), LOST);
            Due.refusedAndCleared("mean at " + m, y -> y.mean(7, 0, m, 0, 0, 0, 3, 0), LOST);
        }
        Due.sentence(10, "OUTSIDE: bell (0 .. 200)");
        for (int bell : Due.beyond(0, 200)) {
            Due.refusedAndCleared("by " + bell, y -> y.late(7, 0, 0, bell, 0, 0, 0, 3, 0), LOST);
        }
        WalkingBus z = Due.something();
        Due.is("by 0", z.late(7, 0, 0, 0, 0, 0, 0, 3, 0), 1);
        Due.is("by 200", z.late(7, 0, 0, 200, 0, 0, 0, 3, 0), 0);
        Due.sentence(10, "upper number (which 0), lower (1)");
        // There at 45, or at 46 in 1 of 10 cases: 5, 8 and a wait, 12, 20.
        Due.is("upper", z.late(7, 0, 0, 45, 0, 0, 0, 3, 0), 1);
        Due.is("lower", z.late(7, 0, 0, 45, 0, 0, 0, 3, 1), 10);
        Due.is("upper", z.mean(7, 0, 0, 0, 0, 0, 3, 0), 451);
        Due.is("lower", z.mean(7, 0, 0, 0, 0, 0, 3, 1), 10);
        for (int which : Due.beyond(0, 1)) {
            Due.refusedAndCleared("late, which " + which, y -> y.late(7, 0, 0, 45, 0, 0, 0, 3, which), LOST);
            Due.refusedAndCleared("mean, which " + which, y -> y.mean(7, 0, 0, 0, 0, 0, 3, which), LOST);
        }
    }

    private static void gates() {
        Due.sentence(10, "its GATES (the CORNERS of its CHILDREN, each once)");
        WalkingBus x = alone();
        x.child(0, 0, 6, 0);
        x.child(0, 1, 9, 0);
        order(x, 0);
        Due.is("two of one corner", x.mean(3, 0, 0, 1, 0, 0, 1, 0), 103);
        order(x, 0, 1);
        Due.is("three of two corners", x.mean(7, 0, 0, 1, 0, 0, 2, 0), 103);
        for (int[] wrong : new int[][] {{0}, {1}, {0, 0}, {1, 1}, {0, 2}, {2, 1}, {0, 3}, {0, -1}, {0, 1, 0}, {0, 1, 2}, {}, {0, 1, 1}}) {
            order(x, wrong);
            x.put(0, -1, 0);
            Due.is("late by wrong gates", x.late(7, 0, 0, 99, 1, 0, 0, wrong.length, 0), LOST);
            Due.is("is no fault", x.fault(), 0);
            x.put(0, -1, 0);
            Due.is("mean by wrong gates", x.mean(7, 0, 0, 1, 0, 0, wrong.length, 0), LOST);
            Due.is("is no fault", x.fault(), 0);
        }
        WalkingBus three = alone();
        three.child(0, 1, 9, 0);
        three.child(0, 2, 9, 0);
        for (int[] wrong : new int[][] {{0, 1, 0}, {0, 1, 1}, {2, 2, 1}, {2, 1, 2}, {0, 1, 3}, {1, 1, 1}}) {
            order(three, wrong);
            Due.is("one of three gates twice", three.late(7, 0, 0, 99, 1, 0, 0, 3, 0), LOST);
        }
        Due.row(x, 2, 2, 0, 1 << 8, 1 << 16, 1, Due.LEAST, Due.MOST);
        for (int i = 0; i < 5; i++) {
            Due.is("cells " + i + " and the next", x.mean(7, 0, 0, 2, 2, i, 2, 0), LOST);
        }
        Due.sentence(10, "OUTSIDE: the cells are not its GATES, each once (changes nothing)");
        Due.refusedAndCleared("one gate less", y -> y.late(7, 0, 0, 99, 0, 0, 0, 2, 0), LOST);
        Due.refusedAndCleared("one cell more", y -> y.late(7, 0, 0, 99, 0, 0, 0, 4, 0), LOST);
        Due.refusedAndCleared("none", y -> y.late(7, 0, 0, 99, 0, 0, 0, 0, 0), LOST);
        Due.refusedAndCleared("one gate less", y -> y.mean(7, 0, 0, 0, 0, 0, 2, 0), LOST);
        Due.refusedAndCleared("one cell more", y -> y.mean(7, 0, 0, 0, 0, 0, 4, 0), LOST);
        Due.refusedAndCleared("none", y -> y.mean(7, 0, 0, 0, 0, 0, 0, 0), LOST);
        Due.refusedAndCleared("one of the three alone", y -> y.mean(2, 0, 0, 0, 0, 0, 3, 0), LOST);
        Due.sentence(10, "in some order, from the last one to the SCHOOL");
        WalkingBus z = Due.town("n3;013;125;s1");
        z.child(0, 0, 9, 0);
        z.child(0, 1, 9, 0);
        z.child(0, 2, 9, 0);
        order(z, 0, 2, 1);
        mean(z, 7, 0, 0, 13, 1);
        order(z, 2, 0, 1);
        mean(z, 7, 0, 0, 19, 1);
        order(z, 1, 2, 0);
        mean(z, 7, 0, 0, 3 + 5 + 8 + 3, 1);
        // The last gate is the school.
        order(z, 1);
        mean(z, 2, 1, 7, 7, 1);
        mean(z, 2, 0, 7, 10, 1);
    }

    private static void waits() {
        Due.sentence(10, "At a GATE it goes on, as soon as all its CHILDREN of this GATE are READY, with them");
        WalkingBus x = Due.town("n3;012;123;s2");
        x.child(0, 1, 9, 10);
        order(x, 1);
        mean(x, 1, 0, 7, 13, 1);
        mean(x, 1, 0, 8, 13, 1);
        mean(x, 1, 0, 9, 14, 1);
        mean(x, 1, 1, 10, 13, 1);
        mean(x, 1, 1, 11, 14, 1);
        x.ready(0, 60);
        mean(x, 1, 0, 0, 63, 1);
        mean(x, 1, 0, 58, 63, 1);
        mean(x, 1, 0, 59, 64, 1);
        x.child(0, 1, 9, 20);
        mean(x, 2, 0, 0, 23, 1);
        Due.is("for both of one gate", x.mean(3, 0, 0, 1, 0, 0, 1, 0), 63);
        x.ready(0, 19);
        Due.is("for both of one gate", x.mean(3, 0, 0, 1, 0, 0, 1, 0), 23);
        // Through the corner of a gate whose turn is not yet: nobody joins or is waited for there.
        WalkingBus y = Due.town("n3;011;121;s2");
        y.child(0, 0, 9, 0);
        y.child(0, 1, 4, 0);
        order(y, 0, 1);
        mean(y, 3, 2, 0, 2 + 1 + 3, 1);
        mean(y, 3, 0, 0, 1 + 3, 1);
        order(y, 1, 0);
        mean(y, 3, 0, 0, 1 + 3 + 6, 1);
        y.ready(1, 30);
        order(y, 0, 1);
        mean(y, 3, 2, 0, 33, 1);
        Due.sentence(10, "(a wait takes up what a crossing did)");
        WalkingBus z = Due.town("n2;011c51;s0");
        z.child(0, 1, 9, 0);
        order(z, 1);
        int[][] late = {{0, 2, 3, 4}, {1, 2, 3, 4}, {2, 3, 1, 2}, {3, 4, 1, 2}, {2, 2, 1, 1}, {2, 4, 0, 1}, {3, 3, 1, 1}, {3, 5, 0, 1}};
        for (int[] row : late) {
            z.ready(0, row[0]);
            late(z, 1, 0, 0, row[1], row[2], row[3]);
        }
        partialWaits();
    }

    private static void partialWaits() {
        // Corner 3 is reached at 3, 4, 5, 6 in 1, 3, 3, 1 of 8 cases; who waits there until 4 has 4, 3, 1 of them left.
        WalkingBus x = Due.town("n5;011c51;121c51;231c51;341;s4");
        x.child(0, 3, 9, 4);
        order(x, 3);
        int[][] late = {{4, 1, 1}, {5, 1, 2}, {6, 1, 8}, {7, 0, 1}};
        for (int[] row : late) {
            late(x, 1, 0, 0, row[0], row[1], row[2]);
        }
        mean(x, 1, 0, 0, 45, 8);
        // Back at corner 0 by 9 in 28 + 12 + 1 of 64 cases; who waited there comes on without delay in 1 of 8.
        x.child(0, 0, 9, 9);
        order(x, 3, 0);
        late(x, 3, 0, 0, 13, 512 - 41, 512);
        late(x, 3, 0, 0, 12, 1, 1);
        late(x, 3, 0, 0, 19, 0, 1);
        late(x, 3, 0, 0, 18, 1, 512);
    }

    private static void paces() {
        Due.sentence(10, "Each ROAD takes LENGTH times PACE: the greatest of CHILDREN that are with it (without any 1)");
        WalkingBus x = Due.town("n4;0110;1210;2310;s3");
        x.child(0, 1, 9, 0);
        x.child(2, 2, 4, 0);
        x.child(0, 1, 6, 0);
        order(x, 1);
        mean(x, 1, 0, 0, 10 + 10 + 10, 1);
        mean(x, 4, 0, 0, 10 + 20 + 20, 1);
        Due.is("both", x.mean(5, 0, 0, 1, 0, 0, 1, 0), 50);
        order(x, 1, 2);
        Due.is("all", x.mean(7, 0, 0, 1, 0, 0, 2, 0), 10 + 20 + 40);
        Due.is("without the one of pace 2", x.mean(3, 0, 0, 1, 0, 0, 2, 0), 10 + 10 + 40);
        order(x, 2, 1);
        Due.is("the slowest first", x.mean(3, 0, 0, 1, 0, 0, 2, 0), 20 + 40 + 80);
        Due.sentence(10, "a CROSSING, in ODDS of 10 cases, each time on its own, SHUT minutes more");
        WalkingBus y = Due.town("n2;011c59;s0");
        y.child(0, 1, 4, 0);
        order(y, 1);
        // There and back: 1 and 3 minutes; twice nine more, whatever the pace.
        int[][] late = {{3, 1, 1}, {4, 3, 4}, {12, 3, 4}, {13, 1, 4}, {21, 1, 4}, {22, 0, 1}};
        for (int[] row : late) {
            late(y, 1, 0, 0, row[0], row[1], row[2]);
        }
        mean(y, 1, 0, 0, 13, 1);
    }

    // ---- promises 10 and 11: refusals and faults

    private interface Asked {
        long ask(WalkingBus x, int set, int corner, int sheet, int sort, int i, int n);
    }

    private static void refusedLines(int promise, Asked line) {
        String call = promise == 10 ? "late: " : "mean: ";
        Due.sentence(promise, call + "UNKNOWN: SHEET, CORNER");
        for (int sheet : Due.beyond(0, 3)) {
            Due.refusedAndCleared("sheet " + sheet, x -> line.ask(x, 7, 0, sheet, 0, 0, 3), LOST);
        }
        for (int corner : Due.beyond(0, 4)) {
            Due.refusedAndCleared("corner " + corner, x -> line.ask(x, 7, corner, 0, 0, 0, 3), LOST);
        }
        Due.sentence(promise, call + "OUTSIDE: sort, SET (empty, a bit of none)");
        for (int sort : Due.beyond(0, 2)) {
            Due.refusedAndCleared("sort " + sort, x -> line.ask(x, 7, 0, 0, sort, 0, 3), LOST);
        }
        for (int set : new int[] {0, 8, 15, 1024, -1, Due.LEAST, Due.MOST, 7 | 1 << 30, 7 | Due.LEAST}) {
            Due.refusedAndCleared("set " + set, x -> line.ask(x, set, 0, 0, 0, 0, 3), LOST);
        }
        Due.sentence(promise, call + "FAULTS CAST, NULL, SIZE, INDEX");
        Due.faultyLost("another sort", x -> line.ask(x, 7, 0, 0, 1, 0, 3), Due.CAST);
        Due.faultyLost("another sort, size", x -> line.ask(x, 7, 0, 0, 2, 0, -1), Due.CAST);
        Due.faultyLost("another sort, index", x -> line.ask(x, 7, 0, 1, 0, 9, 3), Due.CAST);
        Due.faultyLost("nothing", x -> line.ask(x, 7, 0, 3, 0, 0, 3), Due.NULL);
        Due.faultyLost("nothing, size", x -> line.ask(x, 7, 0, 3, 1, 0, -1), Due.NULL);
        Due.faultyLost("nothing, index", x -> line.ask(x, 7, 0, 3, 2, -1, 0), Due.NULL);
        Due.faultyLost("size", x -> line.ask(x, 7, 0, 0, 0, 0, -1), Due.SIZE);
        Due.faultyLost("size, index", x -> line.ask(x, 7, 0, 0, 0, -1, Due.LEAST), Due.SIZE);
        Due.faultyLost("index", x -> line.ask(x, 7, 0, 0, 0, 2, 3), Due.INDEX);
        Due.faultyLost("index, all and one", x -> line.ask(x, 7, 0, 0, 0, 0, 5), Due.INDEX);
        Due.faultyLost("index -1", x -> line.ask(x, 7, 0, 0, 0, -1, 3), Due.INDEX);
        Due.faultyLost("index, the most", x -> line.ask(x, 7, 0, 0, 0, Due.MOST, Due.MOST), Due.INDEX);
        Due.faultyLost("no cells from 5 on", x -> line.ask(x, 7, 0, 0, 0, 5, 0), Due.INDEX);
        Due.faultyLost("no cells from -1 on", x -> line.ask(x, 7, 0, 0, 0, -1, 0), Due.INDEX);
        Due.sentence(promise, call + "UNKNOWN and OUTSIDE are told ahead of FAULTS");
        Due.refusedAndCleared("corner, nothing", x -> line.ask(x, 7, 5, 3, 0, 0, 3), LOST);
        Due.refusedAndCleared("sort, nothing", x -> line.ask(x, 7, 0, 3, 3, 0, 3), LOST);
        Due.refusedAndCleared("set, another sort", x -> line.ask(x, 8, 0, 0, 1, 0, 3), LOST);
        Due.refusedAndCleared("set, size", x -> line.ask(x, 0, 0, 0, 0, 0, -1), LOST);
        Due.refusedAndCleared("set, index", x -> line.ask(x, 0, 0, 0, 0, 9, 9), LOST);
    }

    private static void refusedNumbers() {
        Due.sentence(10, "late: m, bell, which are told ahead of FAULTS");
        Due.refusedAndCleared("m, nothing", x -> x.late(7, 0, 201, 9, 3, 0, 0, 3, 0), LOST);
        Due.refusedAndCleared("bell, another sort", x -> x.late(7, 0, 0, 201, 0, 1, 0, 3, 0), LOST);
        Due.refusedAndCleared("which, index", x -> x.late(7, 0, 0, 9, 0, 0, 9, 3, 2), LOST);
        Due.sentence(11, "mean: m, which are told ahead of FAULTS");
        Due.refusedAndCleared("m, nothing", x -> x.mean(7, 0, 201, 3, 0, 0, 3, 0), LOST);
        Due.refusedAndCleared("which, index", x -> x.mean(7, 0, 0, 0, 0, 9, 3, 2), LOST);
        Due.sentence(10, "FAULTS are told ahead of OUTSIDE: the cells are not its GATES; of STATE");
        WalkingBus x = Due.town("n3;011;s0");
        x.child(0, 2, 9, 0);
        order(x, 2);
        Due.is("no way", x.late(1, 0, 0, 9, 1, 0, 0, 1, 0), LOST);
        Due.is("is no fault", x.fault(), 0);
        Due.is("no way, nothing", x.late(1, 0, 0, 9, 3, 0, 0, 1, 0), LOST);
        Due.is("is a fault", x.fault(), Due.NULL);
        Due.is("no way, index", x.mean(1, 0, 0, 1, 0, 0, 2, 0), LOST);
        Due.is("is a fault", x.fault(), Due.INDEX);
    }

    // ---- promises 10 to 13: ways and crossings

    /** A chain of six crossings, children at both ends and the school at corner 0. */
    private static WalkingBus chain() {
        WalkingBus x = Due.town("n7;011c11;121c11;231c11;341c11;451c11;561c11;s0");
        x.child(0, 0, 9, 0);
        x.child(0, 6, 9, 0);
        return x;
    }

    private static void states() {
        Due.sentence(10, "late: STATE: a WAY is not there");
        WalkingBus x = Due.town("n5;011;231;s1");
        x.child(0, 0, 9, 0);
        x.child(0, 2, 9, 0);
        order(x, 0);
        late(x, 1, 1, 0, 9, 0, 1);
        for (int corner = 2; corner < 5; corner++) {
            Due.is("to the gate", x.late(1, corner, 0, 9, 1, 0, 0, 1, 0), LOST);
            Due.is("to the gate", x.mean(1, corner, 0, 1, 0, 0, 1, 0), LOST);
        }
        order(x, 2);
        Due.is("to the school", x.late(2, 3, 0, 9, 1, 0, 0, 1, 0), LOST);
        Due.is("to the school", x.mean(2, 2, 0, 1, 0, 0, 1, 0), LOST);
        order(x, 0, 2);
        Due.is("between gates", x.mean(3, 0, 0, 1, 0, 0, 2, 0), LOST);
        Due.is("no fault", x.fault(), 0);
        // The gate is where the line is, and the school too: no road is needed.
        WalkingBus y = Due.town("n3;011;s2");
        y.child(0, 2, 9, 5);
        order(y, 2);
        mean(y, 1, 2, 0, 5, 1);
        Due.is("its start", y.start(1, 2, 20, 0), 20);
        Due.sentence(10, "late: STATE: more than 15 CROSSINGS");
        WalkingBus z = chain();
        order(z, 0, 6);
        late(z, 3, 3, 0, 200, 0, 1);
        mean(z, 3, 3, 0, 33, 2);
        Due.is("all in time", z.late(3, 3, 0, 15, 1, 0, 0, 2, 1), 1000000000000000L);
        late(z, 3, 3, 0, 14, 1, 1);
        Due.is("all of them shut", z.late(3, 3, 0, 29, 1, 0, 0, 2, 0), 1);
        late(z, 3, 3, 0, 30, 0, 1);
        Due.is("sixteen", z.late(3, 4, 0, 200, 1, 0, 0, 2, 0), LOST);
        Due.is("sixteen", z.mean(3, 4, 0, 1, 0, 0, 2, 0), LOST);
        Due.is("no fault", z.fault(), 0);
        order(z, 6, 0);
        late(z, 3, 4, 0, 200, 0, 1);
        // The longest of all delays: 15 crossings, nine minutes each.
        WalkingBus slow = Due.town("n7;011c59;121c59;231c59;341c59;451c59;561c59;s0");
        slow.child(0, 0, 9, 0);
        slow.child(0, 6, 9, 0);
        order(slow, 0, 6);
        late(slow, 3, 3, 0, 149, 1, 1 << 15);
        late(slow, 3, 3, 0, 150, 0, 1);
        mean(slow, 3, 3, 0, 165, 2);
        // A long wait at corner 0 takes up the first three.
        slow.ready(0, 60);
        late(slow, 3, 3, 0, 179, 1, 1 << 12);
        late(slow, 3, 3, 0, 180, 0, 1);
        // There at 12, and nine more for each of twelve that is shut: a wait until 60 takes up five of them.
        order(slow, 6, 0);
        late(slow, 3, 0, 0, 119, 1, 1 << 12);
        late(slow, 3, 0, 0, 120, 0, 1);
        late(slow, 3, 0, 0, 60, (4096 - 1 - 12 - 66 - 220 - 495 - 792) / 2, 2048);
        WalkingBus far = Due.town("n7;0130c99;1230c99;2330c99;3430c99;4530c99;5630c99;s0");
        far.child(1, 0, 4, 60);
        far.child(1, 6, 4, 60);
        order(far, 0, 6);
        // 200 and 3 * 30, then twelve roads of 120 minutes; all fifteen are shut in nine of ten cases each.
        mean(far, 3, 3, 200, (200 + 90 + 1440) * 2 + 243, 2);
        late(far, 3, 3, 200, 200, 1, 1);
    }

    private static void startsOf() {
        Due.sentence(12, "all m (0 .. BELL) so that LATE is no more than h hundredths the greatest m");
        WalkingBus x = Due.town("n2;013c52;s1");
        x.child(0, 0, 6, 5);
        // Behind minute 5 it takes 6 minutes, or 8.
        int[][] starts = {{20, 0, 12}, {20, 49, 12}, {20, 50, 14}, {20, 51, 14}, {20, 99, 14}, {20, 100, 20}, {0, 100, 0},
            {1, 100, 1}, {200, 100, 200}, {200, 0, 192}, {13, 0, 5}, {12, 0, NONE}, {14, 0, 6}, {11, 50, 5}, {10, 50, NONE},
            {11, 49, NONE}, {12, 50, 6}, {0, 0, NONE}, {0, 99, NONE}};
        for (int[] s : starts) {
            Due.is("by " + s[0] + ", " + s[1] + " hundredths", x.start(1, 0, s[0], s[1]), s[2]);
        }
        WalkingBus two = Due.town("n3;011c11;121c11;s2");
        two.child(0, 0, 9, 0);
        // Late in 19 of 100 cases by one minute, in 1 of 100 by two.
        int[][] hundredths = {{0, 96}, {1, 97}, {18, 97}, {19, 98}, {99, 98}, {100, 100}};
        for (int[] h : hundredths) {
            Due.is(h[0] + " hundredths", two.start(1, 0, 100, h[0]), h[1]);
        }
        Due.is("by the last minute that is enough", two.start(1, 0, 4, 0), 0);
        Due.is("by one less", two.start(1, 0, 3, 0), NONE);
        WalkingBus at = Due.town("n2;011;s0");
        at.child(0, 0, 9, 0);
        Due.is("nothing to go", at.start(1, 0, 0, 0), 0);
        at.ready(0, 60);
        Due.is("ready at the bell", at.start(1, 0, 60, 0), 60);
        Due.is("ready behind it", at.start(1, 0, 59, 0), NONE);
        Due.is("ready behind it, all may be late", at.start(1, 0, 59, 100), 59);
        Due.sentence(12, "START; NONE: there is none (of a WAY that is too long)");
        WalkingBus far = Due.town("n7;0130;1230;2330;3430;4530;5630;s6");
        far.child(0, 0, 9, 0);
        Due.is("180 minutes", far.start(1, 0, 180, 0), 0);
        Due.is("by one less", far.start(1, 0, 179, 99), NONE);
        Due.is("by one less, all may be late", far.start(1, 0, 179, 100), 179);
    }

    private static void refusedStarts() {
        Due.sentence(12, "start: UNKNOWN: CORNER");
        for (int corner : Due.beyond(0, 4)) {
            Due.refused("corner " + corner, x -> x.start(7, corner, 99, 0), UNKNOWN);
        }
        Due.sentence(12, "start: OUTSIDE: SET, BELL, h");
        for (int set : new int[] {0, 8, 15, 1024, -1, Due.LEAST, Due.MOST, 1 | 1 << 31, 1 | 1 << 30}) {
            Due.refused("set " + set, x -> x.start(set, 0, 99, 0), OUTSIDE);
        }
        for (int bell : Due.beyond(0, 200)) {
            Due.refused("bell " + bell, x -> x.start(7, 0, bell, 0), OUTSIDE);
        }
        for (int h : Due.beyond(0, 100)) {
            Due.refused("h " + h, x -> x.start(7, 0, 99, h), OUTSIDE);
        }
        Due.sentence(12, "start: UNKNOWN, then OUTSIDE, then STATE");
        Due.refused("corner, set", x -> x.start(0, 5, 99, 0), UNKNOWN);
        Due.refused("corner, bell", x -> x.start(7, 5, 201, 0), UNKNOWN);
        Due.refused("corner, h", x -> x.start(7, 5, 99, 101), UNKNOWN);
        Due.refused(() -> fiveGates(0), "set, state", x -> x.start(63, 0, 99, 0), OUTSIDE);
        Due.refused(() -> fiveGates(0), "bell, state", x -> x.start(31, 0, 201, 0), OUTSIDE);
        Due.refused(() -> fiveGates(0), "h, state", x -> x.start(31, 0, 99, 101), OUTSIDE);
        Due.refused(() -> fiveGates(0), "state", x -> x.start(31, 0, 99, 0), STATE);
        Due.sentence(12, "start: STATE: more than 4 GATES");
        Due.is("five", fiveGates(0).start(31, 0, 99, 100), STATE);
        Due.is("four of them", fiveGates(0).start(15, 0, 99, 100), 99);
        Due.is("four others", fiveGates(0).start(30, 0, 99, 100), 99);
        Due.is("ten children at four gates", fiveGates(10).start(1023, 0, 99, 100), 99);
        Due.sentence(12, "start: STATE: a WAY is not there");
        WalkingBus parted = Due.town("n5;011;231;s1");
        parted.child(0, 0, 9, 0);
        parted.child(0, 2, 9, 0);
        Due.is("there are", parted.start(1, 0, 99, 0), 98);
        Due.is("to the gate", parted.start(1, 4, 99, 100), STATE);
        Due.is("to the school", parted.start(2, 3, 99, 100), STATE);
        Due.is("between gates", parted.start(3, 0, 99, 100), STATE);
        Due.sentence(12, "start: STATE: more than 15 CROSSINGS on an order");
        WalkingBus x = chain();
        Due.is("15 on one order, 9 on the other", x.start(3, 3, 99, 0), 81);
        Due.is("16 on one order, 8 on the other", x.start(3, 4, 99, 0), STATE);
        Due.is("10 on the only order", x.start(2, 2, 99, 0), 99 - 20);
        // Of all 24 orders the last one alone has more than 15.
        WalkingBus last = Due.town("n7;432c11;123c11;541c11;054c11;613c11;064c11;423c11;s2");
        for (int corner : new int[] {0, 1, 3, 6}) {
            last.child(0, corner, 9, 0);
        }
        order(last, 6, 3, 1, 0);
        Due.is("the last order", last.late(15, 3, 0, 200, 1, 0, 0, 4, 1), LOST);
        order(last, 6, 3, 0, 1);
        Due.is("the last but one", last.late(15, 3, 0, 200, 1, 0, 0, 4, 1), 1);
        Due.is("any of them", last.start(15, 3, 200, 100), STATE);
        Due.is("three of the gates", last.start(7, 3, 200, 100), 200);
    }

    /** A child at each of five corners, or so many children at four. */
    private static WalkingBus fiveGates(int many) {
        WalkingBus x = Due.town("n6;011;121;231;341;451;s5");
        for (int k = 0; k < (many == 0 ? 5 : many); k++) {
            x.child(0, many == 0 ? k : k % 4, 9, 0);
        }
        return x;
    }

    // ---- promise 13

    private static void best(WalkingBus x, int set, int corner, int bell, int h, int... corners) {
        for (int k = 0; k < 4; k++) {
            Due.is("gate " + k + " by " + bell, x.gate(set, corner, bell, h, k), k < corners.length ? corners[k] : NONE);
        }
    }

    private static void gatesOfStarts() {
        Due.sentence(13, "of several orders the first as a row of CORNERS");
        // All ways between corners are 2 long: each order takes the same.
        WalkingBus x = Due.town("n5;012;022;032;122;132;232;142;242;342;s4");
        for (int corner = 1; corner < 4; corner++) {
            x.child(0, 4 - corner, 9, 0);
        }
        Due.is("start", x.start(7, 0, 70, 0), 62);
        best(x, 7, 0, 70, 0, 1, 2, 3);
        best(x, 6, 0, 70, 0, 1, 2);
        best(x, 5, 0, 70, 0, 1, 3);
        best(x, 7, 3, 70, 100, 1, 2, 3);
        // The child at corner 1 is ready last: it must be the last gate, then, of both such orders, the first.
        x.ready(2, 60);
        best(x, 7, 0, 70, 0, 1, 2, 3);
        best(x, 7, 0, 63, 0, 2, 3, 1);
        Due.is("start", x.start(7, 0, 63, 0), 55);
        best(x, 7, 0, 61, 0);
        Due.is("start", x.start(7, 0, 61, 0), NONE);
        Due.sentence(13, "The k-th GATE of that order (four of them)");
        WalkingBus four = fiveGates(4);
        best(four, 15, 0, 99, 0, 0, 1, 2, 3);
        best(four, 15, 3, 99, 100, 0, 1, 2, 3);
        // From one end to the school at the other one: of all 24 orders the last.
        WalkingBus back = Due.town("n4;013;123;233;s0");
        for (int corner = 0; corner < 4; corner++) {
            back.child(0, corner, 9, 0);
        }
        best(back, 15, 3, 99, 0, 3, 2, 1, 0);
        Due.is("its start", back.start(15, 3, 99, 0), 90);
        Due.sentence(13, "The k-th GATE of that order; NONE: there is none");
        best(four, 8, 0, 99, 0, 3);
        best(four, 9, 0, 99, 0, 0, 3);
        best(four, 9, 0, 4, 0);
        best(four, 9, 0, 5, 0, 0, 3);
    }

    private static void refusedGates() {
        Due.sentence(13, "gate: UNKNOWN: CORNER, k is not 0 .. 3");
        for (int corner : Due.beyond(0, 4)) {
            Due.refused("corner " + corner, x -> x.gate(7, corner, 99, 0, 0), UNKNOWN);
        }
        for (int k : Due.beyond(0, 3)) {
            Due.refused("k " + k, x -> x.gate(7, 0, 99, 0, k), UNKNOWN);
        }
        Due.sentence(13, "gate: OUTSIDE as start()");
        for (int set : new int[] {0, 8, 15, 1024, -1, Due.LEAST, Due.MOST}) {
            Due.refused("set " + set, x -> x.gate(set, 0, 99, 0, 0), OUTSIDE);
        }
        for (int bell : Due.beyond(0, 200)) {
            Due.refused("bell " + bell, x -> x.gate(7, 0, bell, 0, 0), OUTSIDE);
        }
        for (int h : Due.beyond(0, 100)) {
            Due.refused("h " + h, x -> x.gate(7, 0, 99, h, 0), OUTSIDE);
        }
        Due.sentence(13, "gate: STATE as start()");
        Due.refused(() -> fiveGates(0), "five gates", x -> x.gate(31, 0, 99, 0, 0), STATE);
        WalkingBus parted = Due.town("n4;011;231;s1");
        parted.child(0, 0, 9, 0);
        Due.is("no way", parted.gate(1, 2, 99, 0, 3), STATE);
        Due.is("16 crossings on an order", chain().gate(3, 4, 99, 0, 0), STATE);
        best(chain(), 3, 3, 99, 0, 6, 0);
        Due.sentence(13, "gate: UNKNOWN, then OUTSIDE, then STATE");
        Due.refused("corner, set", x -> x.gate(0, 5, 99, 0, 0), UNKNOWN);
        Due.refused("k, set", x -> x.gate(0, 0, 99, 0, 4), UNKNOWN);
        Due.refused("k, bell", x -> x.gate(7, 0, 201, 0, -1), UNKNOWN);
        Due.refused("k, h", x -> x.gate(7, 0, 99, -1, 4), UNKNOWN);
        Due.refused(() -> fiveGates(0), "k, state", x -> x.gate(31, 0, 99, 0, 4), UNKNOWN);
        Due.refused(() -> fiveGates(0), "h, state", x -> x.gate(31, 0, 99, 101, 0), OUTSIDE);
    }

    public static void main(String[] args) {
        shares();
        minutes();
        gates();
        waits();
        paces();
        refusedLines(10, (x, set, corner, sheet, sort, i, n) -> x.late(set, corner, 0, 99, sheet, sort, i, n, 0));
        refusedLines(11, (x, set, corner, sheet, sort, i, n) -> x.mean(set, corner, 0, sheet, sort, i, n, 0));
        refusedNumbers();
        states();
        startsOf();
        refusedStarts();
        gatesOfStarts();
        refusedGates();
        Due.finish();
    }
}
