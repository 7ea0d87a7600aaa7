import java.util.ArrayList;
import java.util.List;
import java.util.function.Supplier;
import java.util.function.ToLongFunction;

/**
 * What the tests of edges share. Each sentence of the document that names an edge is begun with its words,
 * then the answers that it asks for are told; a sentence without an answer, or with a wrong one, does not hold.
 */
final class Due {
    static final int UNKNOWN = -1, OUTSIDE = -2, STATE = -3, FULL = -4, NONE = -9;
    static final int NULL = 1, CAST = 2, INDEX = 3, SIZE = 4;
    static final long LOST = Long.MIN_VALUE;
    static final int LEAST = Integer.MIN_VALUE, MOST = Integer.MAX_VALUE;

    /** Corner 0 to 2: road 3 (length 4) is shorter than roads 0, 1 (5 together). */
    static final String FIVE = "n5;012c52;123;234c11;024;345;s4";

    private static String sentence = "";
    private static int answers = 0;
    private static boolean holds = true;
    private static int holding = 0;
    private static int broken = 0;

    private Due() {
    }

    static void sentence(int promise, String words) {
        end();
        sentence = "promise " + promise + ": " + words;
        answers = 0;
        holds = true;
    }

    static void is(String what, long got, long want) {
        answers++;
        if (got != want) {
            say(what + ": " + got + ", due is " + want);
        }
    }

    private static void say(String what) {
        if (holds) {
            System.out.println(sentence);
        }
        holds = false;
        System.out.println("    " + what);
    }

    private static void end() {
        if (sentence.isEmpty()) {
            return;
        }
        if (answers == 0) {
            say("no answer was asked for");
        }
        if (holds) {
            holding++;
        } else {
            broken++;
        }
    }

    static void finish() {
        end();
        System.out.println(holding + " sentences hold, " + broken + " do not");
        if (broken != 0) {
            System.exit(1);
        }
    }

    // ---- towns and rows

    static void write(WalkingBus x, int sheet, int sort, String text) {
        x.sheet(sheet, sort, text.length());
        for (int i = 0; i < text.length(); i++) {
            x.put(sheet, i, text.charAt(i));
        }
    }

    static int read(WalkingBus x, String text) {
        write(x, 0, 0, text);
        return x.streets(0, 0, 0, text.length());
    }

    static WalkingBus town(String text) {
        WalkingBus x = new WalkingBus();
        if (read(x, text) < 1) {
            say("a text was not taken: " + text);
        }
        return x;
    }

    static void row(WalkingBus x, int sheet, int sort, int... values) {
        x.sheet(sheet, sort, values.length);
        for (int i = 0; i < values.length; i++) {
            x.put(sheet, i, values[i]);
        }
    }

    // ---- calls that change nothing

    /** Something of all: streets, children with ties, helpers, sheets of each sort and one with nothing, a trace, a fault. */
    static WalkingBus something() {
        WalkingBus x = town(FIVE);
        x.child(0, 0, 6, 5);
        x.child(1, 2, 8, 10);
        x.child(2, 3, 4, 0);
        x.tie(0, 1, 1);
        x.tie(1, 2, 2);
        x.helper(21);
        x.helper(10);
        x.holds(4);
        x.tell(2);
        row(x, 0, 0, 0, 2, 3, -7);
        row(x, 1, 1, 300, 2);
        row(x, 2, 2);
        x.lose(3);
        x.put(0, 4, 9);
        return x;
    }

    /** Ten children and five helpers: there is no room for more. */
    static WalkingBus full() {
        WalkingBus x = something();
        for (int k = 3; k < 10; k++) {
            x.child(0, k % 5, 4 + k % 8, k);
        }
        for (int k = 2; k < 5; k++) {
            x.helper(k);
        }
        return x;
    }

    /** All that can be asked of an object (but its latest fault), in some 250 calls. */
    static String state(WalkingBus x) {
        List<Long> seen = new ArrayList<>();
        seen.add((long) x.trace());
        for (int what = 0; what < 7; what++) {
            seen.add((long) x.many(what));
        }
        for (int k = 0; k < x.many(1); k++) {
            for (int what = 0; what < 5; what++) {
                seen.add((long) x.ofRoad(k, what));
            }
        }
        for (int k = 0; k < x.many(3); k++) {
            for (int what = 0; what < 8; what++) {
                seen.add((long) x.ofChild(k, what));
            }
        }
        // The school shows in a start alone.
        seen.add((long) x.start(1, 0, 100, 0));
        for (int k = 0; k < x.many(4); k++) {
            seen.add((long) x.days(k, 0));
        }
        seen.add((long) x.holds(1));
        for (int sheet = 0; sheet < 4; sheet++) {
            cells(x, sheet, seen);
        }
        return seen.toString();
    }

    private static void cells(WalkingBus x, int sheet, List<Long> seen) {
        for (int sort = 0; sort < 3; sort++) {
            for (int i = 0; i < 20; i++) {
                seen.add(x.cell(sheet, i, sort));
                seen.add((long) x.fault());
                if (x.fault() != 0) {
                    break;
                }
            }
        }
    }

    private static void keeps(String what, WalkingBus x, WalkingBus twin) {
        if (!state(x).equals(state(twin))) {
            say(what + " changes something");
        }
    }

    /** A refusal of a call that names no faults: all stays, the latest fault too. */
    static void refused(String what, ToLongFunction<WalkingBus> call, long want) {
        refused(Due::something, what, call, want);
    }

    static void refused(Supplier<WalkingBus> make, String what, ToLongFunction<WalkingBus> call, long want) {
        WalkingBus x = make.get();
        int latest = x.fault();
        is(what, call.applyAsLong(x), want);
        is(what + ": the latest fault stays", x.fault(), latest);
        keeps(what, x, make.get());
    }

    /** A refusal of a call that names faults: all stays, but fault() tells none. */
    static void refusedAndCleared(String what, ToLongFunction<WalkingBus> call, long want) {
        WalkingBus x = something();
        is(what, call.applyAsLong(x), want);
        is(what + ": it came to no fault", x.fault(), 0);
        keeps(what, x, something());
    }

    /** A fault of a call that answers an int: -10 less it. */
    static void faulty(String what, ToLongFunction<WalkingBus> call, int fault) {
        comesTo(what, call, -10 - fault, fault);
    }

    /** A fault of a call that answers a long: LOST. */
    static void faultyLost(String what, ToLongFunction<WalkingBus> call, int fault) {
        comesTo(what, call, LOST, fault);
    }

    private static void comesTo(String what, ToLongFunction<WalkingBus> call, long want, int fault) {
        WalkingBus x = something();
        is(what, call.applyAsLong(x), want);
        is(what + ": its fault", x.fault(), fault);
        keeps(what, x, something());
        // Once more behind another fault, so that one that is left from before is seen.
        WalkingBus y = something();
        y.sheet(0, 0, -1);
        call.applyAsLong(y);
        is(what + ": its fault, behind another one", y.fault(), fault);
    }

    /** Too small and too large by one, and as far as an int goes. */
    static int[] beyond(int least, int most) {
        return new int[] {least - 1, most + 1, LEAST, MOST};
    }
}
