/** Promises 6 to 9: each sentence of the document that names an edge. */
public final class EdgesOfChildrenTest {
    private static final int UNKNOWN = Due.UNKNOWN, OUTSIDE = Due.OUTSIDE, FULL = Due.FULL;

    // ---- promise 6

    private static void taken(int kind, int corner, int age, int ready) {
        WalkingBus x = Due.something();
        Due.is("its number", x.child(kind, corner, age, ready), 3);
        Due.is("its kind", x.ofChild(3, 0), kind);
        Due.is("its corner", x.ofChild(3, 1), corner);
        Due.is("its age", x.ofChild(3, 2), age);
        Due.is("its ready", x.ofChild(3, 3), ready);
        Due.is("children", x.many(3), 4);
    }

    private static void children() {
        Due.sentence(6, "CHILDREN, 10 ever, numbered as they come");
        WalkingBus x = Due.town(Due.FIVE);
        for (int k = 0; k < 10; k++) {
            Due.is("children", x.many(3), k);
            Due.is("the next one", x.ofChild(k, 0), UNKNOWN);
            Due.is("a child", x.child(k % 3, k % 5, 4 + k % 8, k), k);
            Due.is("its ready", x.ofChild(k, 3), k);
        }
        Due.sentence(6, "child: FULL");
        Due.refused(Due::full, "an eleventh", y -> y.child(0, 0, 9, 9), FULL);
        Due.is("children", x.many(3), 10);
        Due.is("an eleventh", x.child(0, 0, 9, 9), FULL);
        Due.is("an eleventh", x.ofChild(10, 0), UNKNOWN);
        Due.sentence(6, "a kind: 0 CHILD; 1 SLOW; 2 HELD");
        for (int kind = 0; kind < 3; kind++) {
            taken(kind, 1, 9, 9);
        }
        for (int kind : Due.beyond(0, 2)) {
            Due.refused("kind " + kind, y -> y.child(kind, 1, 9, 9), OUTSIDE);
        }
        Due.sentence(6, "AGE (4 .. 11)");
        for (int age = 4; age <= 11; age++) {
            taken(0, 1, age, 9);
        }
        for (int age : Due.beyond(4, 11)) {
            Due.refused("age " + age, y -> y.child(0, 1, age, 9), OUTSIDE);
        }
        Due.sentence(6, "READY (minute 0 .. 60)");
        taken(0, 1, 9, 0);
        taken(0, 1, 9, 60);
        for (int ready : Due.beyond(0, 60)) {
            Due.refused("ready " + ready, y -> y.child(0, 1, 9, ready), OUTSIDE);
        }
    }

    private static void refusedChildren() {
        Due.sentence(6, "child: UNKNOWN: CORNER");
        taken(0, 0, 9, 9);
        taken(0, 4, 9, 9);
        for (int corner : Due.beyond(0, 4)) {
            Due.refused("corner " + corner, y -> y.child(0, corner, 9, 9), UNKNOWN);
        }
        Due.is("without streets", new WalkingBus().child(0, 0, 9, 9), UNKNOWN);
        Due.sentence(6, "child: UNKNOWN, then OUTSIDE, then FULL");
        Due.refused("corner, kind", y -> y.child(3, 5, 9, 9), UNKNOWN);
        Due.refused("corner, age", y -> y.child(0, 5, 3, 9), UNKNOWN);
        Due.refused("corner, ready", y -> y.child(0, 5, 9, 61), UNKNOWN);
        Due.refused(Due::full, "corner, full", y -> y.child(0, 5, 9, 9), UNKNOWN);
        Due.refused(Due::full, "kind, full", y -> y.child(3, 0, 9, 9), OUTSIDE);
        Due.refused(Due::full, "age, full", y -> y.child(0, 0, 12, 9), OUTSIDE);
        Due.refused(Due::full, "ready, full", y -> y.child(0, 0, 9, 61), OUTSIDE);
    }

    // ---- promise 7

    private static void parts() {
        int[] paces = {3, 3, 2, 2, 2, 1, 1, 1};
        Due.sentence(7, "PACE: of a CHILD 3 up to AGE 5, 2 up to 8, else 1");
        WalkingBus x = Due.town(Due.FIVE);
        for (int age = 4; age <= 11; age++) {
            Due.is("at age " + age, x.ofChild(x.child(0, 0, age, 0), 4), paces[age - 4]);
        }
        Due.sentence(7, "PACE: of a SLOW one what a CHILD's is, and 1");
        for (int kind = 1; kind <= 2; kind++) {
            WalkingBus y = Due.town(Due.FIVE);
            for (int age = 4; age <= 11; age++) {
                Due.is("kind " + kind + " at age " + age, y.ofChild(y.child(kind, 0, age, 0), 4), paces[age - 4] + 1);
            }
        }
        Due.sentence(7, "HEADS: a CHILD is 1; a HELD one 3");
        WalkingBus z = Due.something();
        Due.is("CHILD", z.ofChild(0, 5), 1);
        Due.is("SLOW", z.ofChild(1, 5), 1);
        Due.is("HELD", z.ofChild(2, 5), 3);
        Due.sentence(7, "Two may be FRIENDS, or QUARREL, or neither (at first)");
        WalkingBus w = Due.town(Due.FIVE);
        for (int k = 0; k < 10; k++) {
            w.child(k % 3, 0, 9, 0);
        }
        for (int k = 0; k < 10; k++) {
            Due.is("friends", w.ofChild(k, 6), 0);
            Due.is("quarrels", w.ofChild(k, 7), 0);
        }
        Due.is("pairs", w.many(5) + w.many(6), 0);
        Due.sentence(7, "Sets are told as bits (bit k for number k)");
        for (int k = 1; k < 10; k++) {
            w.tie(0, k, 1);
            w.tie(k, 0, 2 - k % 2);
        }
        Due.is("friends", w.ofChild(0, 6), 2 + 8 + 32 + 128 + 512);
        Due.is("quarrels", w.ofChild(0, 7), 4 + 16 + 64 + 256);
        Due.is("friends of the last", w.ofChild(9, 6), 1);
        Due.is("quarrels of the last but one", w.ofChild(8, 7), 1);
    }

    private static void refusedParts() {
        Due.sentence(7, "ofChild: UNKNOWN");
        for (int k : Due.beyond(0, 2)) {
            Due.refused("child " + k, y -> y.ofChild(k, 0), UNKNOWN);
        }
        Due.sentence(7, "ofChild: OUTSIDE");
        for (int what : Due.beyond(0, 7)) {
            Due.refused("part " + what, y -> y.ofChild(0, what), OUTSIDE);
        }
        Due.sentence(7, "ofChild: UNKNOWN is told ahead of OUTSIDE");
        Due.refused("both", y -> y.ofChild(3, 8), UNKNOWN);
        Due.refused("both", y -> y.ofChild(-1, -1), UNKNOWN);
    }

    // ---- promise 8

    private static void ready() {
        Due.sentence(8, "READY of a CHILD becomes v: what it was (0 .. 60)");
        WalkingBus x = Due.something();
        Due.is("was", x.ready(0, 60), 5);
        Due.is("was", x.ready(0, 0), 60);
        Due.is("is", x.ofChild(0, 3), 0);
        Due.is("was", x.ready(2, 59), 0);
        Due.is("was", x.ready(2, 59), 59);
        Due.is("that of another", x.ofChild(1, 3), 10);
        Due.sentence(8, "ready: UNKNOWN");
        for (int k : Due.beyond(0, 2)) {
            Due.refused("child " + k, y -> y.ready(k, 9), UNKNOWN);
        }
        Due.sentence(8, "ready: OUTSIDE");
        for (int v : Due.beyond(0, 60)) {
            Due.refused("minute " + v, y -> y.ready(0, v), OUTSIDE);
        }
        Due.sentence(8, "ready: UNKNOWN is told ahead of OUTSIDE");
        Due.refused("both", y -> y.ready(3, 61), UNKNOWN);
    }

    // ---- promise 9

    private static void tie() {
        Due.sentence(9, "Two are neither (0), FRIENDS (1), QUARREL (2) from now on: what they were");
        for (int was = 0; was < 3; was++) {
            for (int v = 0; v < 3; v++) {
                WalkingBus x = Due.full();
                x.tie(8, 9, was);
                Due.is("were", v % 2 == 0 ? x.tie(8, 9, v) : x.tie(9, 8, v), was);
                Due.is("friends of one", x.ofChild(8, 6), v == 1 ? 512 : 0);
                Due.is("friends of the other", x.ofChild(9, 6), v == 1 ? 256 : 0);
                Due.is("quarrels of one", x.ofChild(8, 7), v == 2 ? 512 : 0);
                Due.is("quarrels of the other", x.ofChild(9, 7), v == 2 ? 256 : 0);
                Due.is("pairs of friends", x.many(5), v == 1 ? 2 : 1);
                Due.is("that quarrel", x.many(6), v == 2 ? 2 : 1);
            }
        }
        Due.sentence(9, "tie: UNKNOWN");
        for (int k : Due.beyond(0, 2)) {
            Due.refused("one is " + k, y -> y.tie(k, 0, 1), UNKNOWN);
            Due.refused("the other is " + k, y -> y.tie(0, k, 1), UNKNOWN);
        }
        Due.sentence(9, "tie: OUTSIDE: both are one, v");
        for (int k = 0; k < 3; k++) {
            int both = k;
            Due.refused("both are " + k, y -> y.tie(both, both, 1), OUTSIDE);
            Due.refused("both are " + k + ", neither", y -> y.tie(both, both, 0), OUTSIDE);
        }
        for (int v : Due.beyond(0, 2)) {
            Due.refused("v " + v, y -> y.tie(0, 1, v), OUTSIDE);
        }
        Due.sentence(9, "tie: UNKNOWN is told ahead of OUTSIDE");
        Due.refused("both are one that is not there", y -> y.tie(3, 3, 1), UNKNOWN);
        Due.refused("v", y -> y.tie(0, 3, 3), UNKNOWN);
        Due.refused("v", y -> y.tie(-1, 0, -1), UNKNOWN);
    }

    public static void main(String[] args) {
        children();
        refusedChildren();
        parts();
        refusedParts();
        ready();
        tie();
        Due.finish();
    }
}
