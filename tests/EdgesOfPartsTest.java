import java.util.function.ToLongFunction;

/** Promises 29 to 32 and 34, and the constants: each sentence of the document that names an edge. */
public final class EdgesOfPartsTest {
    private static final int UNKNOWN = Due.UNKNOWN, OUTSIDE = Due.OUTSIDE;

    private static void constants() {
        Due.sentence(1, "UNKNOWN = -1, OUTSIDE = -2, STATE = -3, FULL = -4, NONE = -9; LOST = Long.MIN_VALUE");
        Due.is("UNKNOWN", WalkingBus.UNKNOWN, -1);
        Due.is("OUTSIDE", WalkingBus.OUTSIDE, -2);
        Due.is("STATE", WalkingBus.STATE, -3);
        Due.is("FULL", WalkingBus.FULL, -4);
        Due.is("NONE", WalkingBus.NONE, -9);
        Due.is("LOST", WalkingBus.LOST, Long.MIN_VALUE);
    }

    /** A child of each kind, and no trace yet. */
    private static WalkingBus kinds(int age) {
        WalkingBus x = Due.town("n2;011;s1");
        for (int kind = 0; kind < 3; kind++) {
            x.child(kind, 0, age, 0);
        }
        return x;
    }

    private static void told(int child, ToLongFunction<WalkingBus> call, long want, int... bodies) {
        WalkingBus x = kinds(7);
        int trace = 0;
        for (int again = 0; again < 3; again++) {
            Due.is("child " + child, call.applyAsLong(x), want);
            for (int body : bodies) {
                trace = 31 * trace + body;
            }
            Due.is("the trace of child " + child, x.trace(), trace);
        }
    }

    private static void tell() {
        Due.sentence(29, "CHILD (1): AGE");
        told(0, x -> x.tell(0), 7, 1);
        Due.sentence(29, "SLOW (2): what CHILD's gives, and 100");
        told(1, x -> x.tell(1), 107, 2, 1);
        Due.sentence(29, "HELD (3): what SLOW's gives, and what CHILD's gives (SLOW's left out)");
        told(2, x -> x.tell(2), 114, 3, 2, 1, 1);
        for (int age = 4; age <= 11; age += 7) {
            Due.is("CHILD at " + age, kinds(age).tell(0), age);
            Due.is("SLOW at " + age, kinds(age).tell(1), age + 100);
            Due.is("HELD at " + age, kinds(age).tell(2), age + 100 + age);
        }
        Due.sentence(29, "tell: UNKNOWN");
        for (int k : Due.beyond(0, 2)) {
            Due.refused("child " + k, x -> x.tell(k), UNKNOWN);
        }
        Due.is("of none", new WalkingBus().tell(0), UNKNOWN);
    }

    private static void tag() {
        Due.sentence(30, "TAGGED by a lent body (4): its number");
        told(0, x -> x.tag(0), 0, 4);
        told(1, x -> x.tag(1), 1, 4);
        WalkingBus x = Due.town("n2;011;s1");
        for (int k = 0; k < 10; k++) {
            x.child(k % 2, 0, 9, 0);
            Due.is("child " + k, x.tag(k), k);
        }
        Due.sentence(30, "HELD ones have their own (5): 60");
        told(2, y -> y.tag(2), 60, 5);
        Due.sentence(30, "tag: UNKNOWN");
        for (int k : Due.beyond(0, 2)) {
            Due.refused("child " + k, y -> y.tag(k), UNKNOWN);
        }
        Due.is("of none", new WalkingBus().tag(0), UNKNOWN);
        Due.is("an eleventh", x.tag(10), UNKNOWN);
    }

    private static void as() {
        Due.sentence(31, "A CHILD, taken as one of a kind: 1");
        for (int k = 0; k < 3; k++) {
            for (int kind = 0; kind <= k; kind++) {
                WalkingBus x = Due.something();
                Due.is("kind " + k + " as " + kind, x.as(k, kind), 1);
                Due.is("no fault", x.fault(), 0);
                Due.is("it stays what it is", x.ofChild(k, 0), k);
            }
        }
        Due.sentence(31, "CAST: it is none (each is a CHILD, too; a HELD one is a SLOW)");
        Due.faulty("a CHILD as SLOW", x -> x.as(0, 1), Due.CAST);
        Due.faulty("a CHILD as HELD", x -> x.as(0, 2), Due.CAST);
        Due.faulty("a SLOW as HELD", x -> x.as(1, 2), Due.CAST);
        Due.sentence(31, "as: UNKNOWN");
        for (int k : Due.beyond(0, 2)) {
            Due.refusedAndCleared("child " + k, x -> x.as(k, 0), UNKNOWN);
        }
        Due.sentence(31, "as: OUTSIDE");
        for (int kind : Due.beyond(0, 2)) {
            Due.refusedAndCleared("kind " + kind, x -> x.as(0, kind), OUTSIDE);
            Due.refusedAndCleared("kind " + kind + " of a HELD one", x -> x.as(2, kind), OUTSIDE);
        }
        Due.sentence(31, "as: UNKNOWN is told ahead of OUTSIDE");
        Due.refusedAndCleared("both", x -> x.as(3, 3), UNKNOWN);
        Due.refusedAndCleared("both", x -> x.as(-1, -1), UNKNOWN);
    }

    private static void trace() {
        Due.sentence(32, "TRACE (an int that wraps, 0 at first, becomes 31 times it and the number) as they begin");
        WalkingBus x = kinds(9);
        Due.is("at first", x.trace(), 0);
        int trace = 0;
        int below = 0;
        for (int k = 0; k < 200; k++) {
            int body = k % 3 == 0 ? 5 : 4;
            x.tag(k % 3 == 0 ? 2 : 0);
            trace = trace * 31 + body;
            below += trace < 0 ? 1 : 0;
            Due.is("behind " + (k + 1) + " bodies", x.trace(), trace);
        }
        Due.is("it wraps to below 0 at times", below > 50 ? 1 : 0, 1);
        // The first wrap by hand: seven bodies 4 are 4 * (31^7 - 1) / 30, less 2^32 as often as it goes.
        WalkingBus y = kinds(9);
        for (int k = 0; k < 6; k++) {
            y.tag(0);
        }
        Due.is("six bodies", y.trace(), 4L * (887503681L - 1) / 30);
        y.tag(0);
        Due.is("seven bodies", y.trace(), 4L * (27512614111L - 1) / 30 - (1L << 32));
        Due.sentence(32, "(refused calls leave no number in it, nor does as(), nor a TEXT that is taken)");
        int before = y.trace();
        y.tell(3);
        y.tag(3);
        y.as(2, 0);
        y.as(0, 2);
        Due.is("it stays", y.trace(), before);
        Due.read(y, "n2;011;s1");
        Due.is("it stays", y.trace(), before);
    }

    private static void many() {
        Due.sentence(34, "0 CORNERS, 1 ROADS, 2 CROSSINGS, 3 CHILDREN, 4 HELPERS, 5 pairs of FRIENDS, 6 that QUARREL");
        int[] some = {5, 5, 2, 3, 2, 1, 1};
        for (int what = 0; what < 7; what++) {
            Due.is("how many " + what, Due.something().many(what), some[what]);
        }
        WalkingBus x = Due.town("n7" + ";011c11".repeat(12) + ";s1");
        for (int k = 0; k < 10; k++) {
            x.child(0, 0, 9, 0);
        }
        for (int k = 0; k < 5; k++) {
            x.helper(0);
        }
        for (int v = 1; v <= 2; v++) {
            for (int a = 0; a < 10; a++) {
                for (int b = 0; b < a; b++) {
                    x.tie(a, b, v);
                }
            }
            int[] most = {7, 12, 12, 10, 5, v == 1 ? 45 : 0, v == 1 ? 0 : 45};
            for (int what = 0; what < 7; what++) {
                Due.is("the most " + what, x.many(what), most[what]);
            }
        }
        Due.sentence(34, "many: OUTSIDE");
        for (int what : Due.beyond(0, 6)) {
            Due.refused("what " + what, y -> y.many(what), OUTSIDE);
        }
    }

    public static void main(String[] args) {
        constants();
        tell();
        tag();
        as();
        trace();
        many();
        Due.finish();
    }
}
