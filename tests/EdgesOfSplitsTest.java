/** Promises 14 to 16: each sentence of the document that names an edge. */
public final class EdgesOfSplitsTest {
    private static final int UNKNOWN = Due.UNKNOWN, OUTSIDE = Due.OUTSIDE, STATE = Due.STATE, NONE = Due.NONE;

    // ---- promise 14

    private static void holds() {
        Due.sentence(14, "HOLDS (1 .. 9; 6 at first)");
        WalkingBus x = new WalkingBus();
        int was = 6;
        for (int v = 1; v <= 9; v++) {
            Due.is("what it was", x.holds(v), was);
            was = v;
        }
        Due.is("what it was", x.holds(9), 9);
        Due.sentence(14, "holds: OUTSIDE");
        for (int v : Due.beyond(1, 9)) {
            Due.refused("v " + v, y -> y.holds(v), OUTSIDE);
        }
    }

    // ---- promise 15

    private static void grown() {
        Due.sentence(15, "its HEADS by HOLDS, one more, if anything is left over");
        WalkingBus x = Due.town(Due.FIVE);
        for (int k = 0; k < 10; k++) {
            x.child(k < 7 ? 0 : 2, 0, 9, 0);
        }
        // Heads: one each of children 0 .. 6, three each of 7 .. 9.
        Due.is("one head by six", x.grown(1), 1);
        Due.is("six heads by six", x.grown(63), 1);
        Due.is("seven heads by six", x.grown(127), 2);
        Due.is("six heads of two by six", x.grown(128 | 256), 1);
        Due.is("nine heads of three by six", x.grown(128 | 256 | 512), 2);
        Due.is("all", x.grown(1023), 3);
        for (int hold = 1; hold <= 9; hold++) {
            x.holds(hold);
            for (int heads = 1; heads <= 7; heads++) {
                int want = heads % hold == 0 ? heads / hold : heads / hold + 1;
                Due.is(heads + " heads by " + hold, x.grown((1 << heads) - 1), want);
            }
        }
        x.holds(1);
        Due.is("all by one", x.grown(1023), 16);
        Due.is("a SLOW one is one head", Due.something().grown(2), 1);
        Due.sentence(15, "grown: OUTSIDE: SET");
        for (int set : new int[] {0, 8, 15, 1024, -1, Due.LEAST, Due.MOST, 7 | 1 << 30, 7 | Due.LEAST}) {
            Due.refused("set " + set, y -> y.grown(set), OUTSIDE);
        }
        Due.is("of ten children", x.grown(1024), OUTSIDE);
        Due.is("of ten children", x.grown(1025), OUTSIDE);
    }

    // ---- promise 16

    /** Children at corner 0, three minutes for each 1 of their pace from the school. */
    private static WalkingBus ages(int... ages) {
        WalkingBus x = Due.town("n2;013;s1");
        for (int age : ages) {
            x.child(0, 0, age, 0);
        }
        return x;
    }

    private static void split(WalkingBus x, int set, int bell, int... parts) {
        for (int what = 0; what < 4; what++) {
            Due.is("split of " + set + " by " + bell + ", " + what, x.split(set, 0, bell, 0, what), parts[what]);
        }
    }

    private static void none(WalkingBus x, int set, int bell, int h) {
        for (int what = 0; what < 4; what++) {
            Due.is("split of " + set + " by " + bell + ", " + what, x.split(set, 0, bell, h, what), NONE);
        }
    }

    private static void splits() {
        Due.sentence(16, "SPLIT of a SET of 2 to 6 CHILDREN: into two LINES, both not empty");
        WalkingBus x = ages(9, 9, 9, 9, 9, 9, 9);
        split(x, 3, 50, 1, 2, 94, 1);
        split(x, 63, 50, 1, 2, 94, 1);
        split(x, 126, 50, 2, 2, 94, 1);
        for (int k = 0; k < 7; k++) {
            int one = 1 << k;
            Due.refused(() -> ages(9, 9, 9, 9, 9, 9, 9), "one child", y -> y.split(one, 0, 50, 0, 0), OUTSIDE);
        }
        Due.refused(() -> ages(9, 9, 9, 9, 9, 9, 9), "seven children", y -> y.split(127, 0, 50, 0, 0), OUTSIDE);
        Due.sentence(16, "each with a START that is not NONE");
        WalkingBus y = ages(9, 9, 9);
        y.ready(1, 30);
        y.ready(2, 40);
        split(y, 7, 43, 1, 2, 80, 1);
        none(y, 7, 42, 0);
        none(y, 7, 42, 99);
        Due.is("all may be late", y.split(7, 0, 42, 100, 2), 84);
        split(y, 3, 42, 1, 2, 78, 1);
        none(y, 5, 42, 0);
        Due.sentence(16, "with the fewest GROWN ones together");
        WalkingBus z = ages(4, 9, 9, 9, 9, 9);
        z.holds(3);
        // The slow one alone would be the best sum, but needs three grown ones.
        split(z, 63, 50, 1 | 2 | 4, 2, 41 + 47, 0);
        z.holds(2);
        split(z, 63, 50, 1 | 2, 3, 41 + 47, 0);
        z.holds(5);
        split(z, 63, 50, 1, 2, 41 + 47, 0);
        WalkingBus held = Due.town("n2;013;s1");
        held.child(0, 0, 4, 0);
        held.child(2, 0, 9, 0);
        held.child(0, 0, 4, 0);
        held.holds(3);
        // Child 1 is pace 2 and three heads: the two others go together.
        split(held, 7, 50, 5, 2, 41 + 44, 0);
        held.holds(2);
        split(held, 7, 50, 5, 3, 41 + 44, 0);
        held.holds(9);
        split(held, 7, 50, 5, 2, 41 + 44, 1);
    }

    private static void bestSplits() {
        Due.sentence(16, "of several that with the greatest sum of both STARTS");
        split(ages(4, 9, 4), 7, 50, 5, 2, 41 + 47, 1);
        split(ages(9, 4, 4), 7, 50, 1, 2, 47 + 41, 1);
        split(ages(4, 4, 9), 7, 50, 3, 2, 41 + 47, 1);
        split(ages(6, 9, 4), 7, 50, 5, 2, 41 + 47, 1);
        split(ages(9, 6, 4), 7, 50, 1, 2, 47 + 41, 1);
        Due.sentence(16, "of several the least number that is the SET of the LINE with the least CHILD");
        split(ages(4, 4, 4), 7, 50, 1, 2, 82, 1);
        split(ages(4, 4, 4, 4, 4), 2 | 8 | 16, 50, 2, 2, 82, 1);
        split(ages(4, 4, 4, 4, 4, 9), 4 | 8 | 16 | 32, 50, 4 | 8 | 16, 2, 41 + 47, 1);
        split(ages(9, 9, 4), 7, 50, 1, 2, 47 + 41, 1);
        split(ages(9, 4, 9, 4), 15, 50, 1, 2, 47 + 41, 1);
        split(ages(4, 9, 9, 4), 15, 50, 9, 2, 41 + 47, 1);
        Due.sentence(16, "SAVED: how many GROWN ones fewer one LINE needs");
        WalkingBus x = ages(9, 9, 9, 9, 9, 9);
        int[] saved = {0, 0, 0, 1, 0, 1, 1, 1, 1};
        for (int hold = 1; hold <= 9; hold++) {
            x.holds(hold);
            int one = 6 / hold + (6 % hold == 0 ? 0 : 1);
            Due.is("six by " + hold, x.split(63, 0, 50, 0, 3), Math.max(2, one) - one);
            Due.is("two by " + hold, x.split(3, 0, 50, 0, 3), hold == 1 ? 0 : 1);
        }
    }

    private static void manyCrossings() {
        Due.sentence(16, "(one of which any order has more than 15 CROSSINGS has none)");
        // Gates 5, 0, 4 have an order of 18 crossings; with corner 6 among them no order has more than 15.
        WalkingBus x = Due.town("n7;011c11;121c11;231c11;341c11;451c11;0610;5610;s0");
        x.child(0, 5, 9, 0);
        x.child(0, 0, 9, 0);
        x.child(0, 4, 9, 0);
        x.child(2, 6, 9, 0);
        x.holds(3);
        Due.is("the whole has a start", x.start(15, 0, 200, 100), 200);
        Due.is("three of them have none", x.start(7, 0, 200, 100), STATE);
        Due.is("so two grown ones are not enough", x.split(15, 0, 200, 100, 1), 3);
        Due.is("the first by three", x.split(15, 0, 200, 100, 0), 1);
        Due.is("nor is any split of the three asked for", x.split(7, 0, 200, 100, 0), STATE);
        Due.sentence(16, "split: STATE as start() of the whole SET");
        WalkingBus chain = Due.town("n7;011c11;121c11;231c11;341c11;451c11;561c11;s0");
        chain.child(0, 0, 9, 0);
        chain.child(0, 6, 9, 0);
        Due.is("16 crossings on an order", chain.split(3, 4, 99, 0, 0), STATE);
        Due.is("15 crossings", chain.split(3, 3, 99, 0, 0), 1);
        WalkingBus parted = Due.town("n4;011;231;s1");
        parted.child(0, 0, 9, 0);
        parted.child(0, 2, 9, 0);
        parted.child(0, 1, 9, 0);
        Due.is("no way to one", parted.split(3, 0, 99, 100, 0), STATE);
        Due.is("no way to the school", parted.split(5, 2, 99, 100, 0), STATE);
        Due.is("ways", parted.split(5, 0, 99, 100, 0), 1);
        Due.refused(EdgesOfSplitsTest::fiveGates, "five gates", y -> y.split(31, 0, 99, 100, 0), STATE);
        Due.is("four gates", fiveGates().split(30, 0, 99, 100, 0), 2);
    }

    private static WalkingBus fiveGates() {
        WalkingBus x = Due.town("n6;011;121;231;341;451;s5");
        for (int corner = 0; corner < 5; corner++) {
            x.child(0, corner, 9, 0);
        }
        return x;
    }

    private static void refusedSplits() {
        Due.sentence(16, "split: UNKNOWN: CORNER");
        for (int corner : Due.beyond(0, 4)) {
            Due.refused("corner " + corner, x -> x.split(7, corner, 99, 0, 0), UNKNOWN);
        }
        Due.sentence(16, "split: OUTSIDE: SET, not 2 to 6 CHILDREN, BELL, h, what");
        for (int set : new int[] {0, 1, 2, 4, 8, 9, 15, 1024, 1025, -1, Due.LEAST, Due.MOST, 7 | 1 << 30, 7 | Due.LEAST}) {
            Due.refused("set " + set, x -> x.split(set, 0, 99, 0, 0), OUTSIDE);
        }
        for (int set : new int[] {127, 1023, 1022, 1024, 1027}) {
            Due.refused(Due::full, "set " + set, x -> x.split(set, 0, 99, 0, 0), OUTSIDE);
        }
        for (int bell : Due.beyond(0, 200)) {
            Due.refused("bell " + bell, x -> x.split(7, 0, bell, 0, 0), OUTSIDE);
        }
        for (int h : Due.beyond(0, 100)) {
            Due.refused("h " + h, x -> x.split(7, 0, 99, h, 0), OUTSIDE);
        }
        for (int what : Due.beyond(0, 3)) {
            Due.refused("what " + what, x -> x.split(7, 0, 99, 0, what), OUTSIDE);
        }
        Due.sentence(16, "split: UNKNOWN, then OUTSIDE, then STATE");
        Due.refused("corner, set", x -> x.split(1, 5, 99, 0, 0), UNKNOWN);
        Due.refused("corner, bell", x -> x.split(7, 5, 201, 0, 0), UNKNOWN);
        Due.refused("corner, h", x -> x.split(7, 5, 99, 101, 0), UNKNOWN);
        Due.refused("corner, what", x -> x.split(7, 5, 99, 0, 4), UNKNOWN);
        Due.refused(EdgesOfSplitsTest::fiveGates, "bell, state", x -> x.split(31, 0, 201, 0, 0), OUTSIDE);
        Due.refused(EdgesOfSplitsTest::fiveGates, "h, state", x -> x.split(31, 0, 99, -1, 0), OUTSIDE);
        Due.refused(EdgesOfSplitsTest::fiveGates, "what, state", x -> x.split(31, 0, 99, 0, 4), OUTSIDE);
        Due.refused(EdgesOfSplitsTest::fiveGates, "set, state", x -> x.split(63, 0, 99, 0, 0), OUTSIDE);
    }

    public static void main(String[] args) {
        holds();
        grown();
        splits();
        bestSplits();
        manyCrossings();
        refusedSplits();
        Due.finish();
    }
}
