/** Promises 17 and 18: each sentence of the document that names an edge. */
public final class EdgesOfRopesTest {
    private static final int UNKNOWN = Due.UNKNOWN, OUTSIDE = Due.OUTSIDE, NONE = Due.NONE;
    private static final long LOST = Due.LOST;

    private static WalkingBus kids(int... ages) {
        WalkingBus x = Due.town("n2;011;s1");
        for (int age : ages) {
            x.child(0, 0, age, 0);
        }
        return x;
    }

    private static void loops(WalkingBus x, int set, int r, int rows, int... loops) {
        Due.is("rows of friends of " + set, x.friendly(set, r, -1), rows);
        for (int k = 0; k < 8; k++) {
            Due.is("loop " + k + " of " + set, x.friendly(set, r, k), k < loops.length ? loops[k] : NONE);
        }
    }

    private static void ropes() {
        Due.sentence(17, "A ROPE for a SET of 1 to 8 CHILDREN");
        WalkingBus x = kids(9, 9, 9, 9, 9, 9, 9, 9, 9, 9);
        long orders = 1;
        for (int size = 1; size <= 8; size++) {
            orders *= size;
            Due.is(size + " children", x.ways((1 << size) - 1, 4), orders);
            Due.is(size + " others", x.ways((1 << size) - 1 << 2, 4), orders);
        }
        loops(x, 1023 & ~(1 | 16), 4, 0, 1, 2, 3, 5, 6, 7, 8, 9);
        Due.sentence(17, "as many rows as they need; if they are an odd number, the last loop by the road is empty");
        loops(x, 1, 4, 0, NONE, 0);
        loops(x, 512, 4, 0, NONE, 9);
        loops(x, 3, 4, 0, 0, 1);
        loops(x, 7, 4, 0, 0, 1, NONE, 2);
        loops(x, 15, 4, 0, 0, 1, 2, 3);
        loops(x, 31, 4, 0, 0, 1, 2, 3, NONE, 4);
        loops(x, 63, 4, 0, 0, 1, 2, 3, 4, 5);
        loops(x, 127, 4, 0, 0, 1, 2, 3, 4, 5, NONE, 6);
        Due.sentence(17, "By the road nobody is younger than r (4 .. 11)");
        WalkingBus y = kids(4, 5, 6, 7, 8, 9, 10, 11);
        for (int r = 4; r <= 11; r++) {
            for (int age = 4; age <= 11; age++) {
                int one = 1 << age - 4;
                int other = age == 4 ? 128 : 1;
                Due.is("one of " + age + " by the houses", y.ways(one, r), 1);
                long want = (age >= r ? 1 : 0) + ((other == 1 ? 4 : 11) >= r ? 1 : 0);
                Due.is("two, one of " + age + ", by " + r, y.ways(one | other, r), want);
            }
        }
        // Of eight by four rows: so many of the road's loops as are old enough.
        Due.is("all are old enough", y.ways(255, 4), 40320);
        Due.is("all but one", y.ways(255, 5), 7 * 6 * 5 * 4 * 24);
        Due.is("just four are", y.ways(255, 8), 24 * 24);
        Due.is("three are", y.ways(255, 9), 0);
        Due.is("seven of three by the road", y.ways(127, 8), 6 * 24);
        Due.is("one by the road", y.ways(1 | 2 | 128, 11), 2);
    }

    private static void quarrels() {
        Due.sentence(17, "none who QUARREL are in one row");
        WalkingBus x = kids(9, 9, 9, 9, 9, 9, 9);
        x.tie(0, 1, 2);
        Due.is("two", x.ways(3, 4), 0);
        Due.is("two others", x.ways(6, 4), 2);
        x.tie(0, 1, 1);
        Due.is("no more", x.ways(3, 4), 2);
        x.tie(0, 1, 2);
        Due.sentence(17, "nor one just behind the other by the same side");
        // Three: the one behind sits by the houses; behind it nobody is by the road.
        Due.is("three", x.ways(7, 4), 2);
        loops(x, 7, 4, 0, 0, 2, NONE, 1);
        Due.is("four: across is not near", x.ways(15, 4), 24 - 4 * 4);
        loops(x, 15, 4, 0, 0, 2, 3, 1);
        Due.is("five: not behind an empty loop", x.ways(31, 4), 120 - 5 * 2 * 6);
        Due.is("six: one row between is enough", x.ways(63, 4), 720 - 7 * 2 * 24);
        WalkingBus y = kids(9, 9, 4, 4);
        y.tie(0, 1, 2);
        Due.is("both by the road", y.ways(15, 9), 0);
        y.tie(0, 1, 0);
        y.tie(2, 3, 2);
        Due.is("both by the houses", y.ways(15, 9), 0);
        y.tie(2, 3, 1);
        y.tie(0, 2, 2);
        Due.is("across", y.ways(15, 9), 2);
        loops(y, 15, 9, 0, 0, 3, 1, 2);
        WalkingBus z = kids(9, 9, 9, 9);
        for (int a = 0; a < 4; a++) {
            for (int b = 0; b < a; b++) {
                z.tie(a, b, 2);
            }
        }
        Due.is("one by itself", z.ways(4, 4), 1);
        Due.is("all quarrel", z.ways(15, 4), 0);
        Due.is("three of them", z.ways(11, 4), 0);
        Due.sentence(17, "(who is not of the SET does not count)");
        WalkingBus w = kids(9, 9, 9);
        w.tie(0, 2, 2);
        w.tie(1, 2, 2);
        Due.is("two", w.ways(3, 9), 2);
        Due.is("all", w.ways(7, 4), 0);
    }

    private static void friends() {
        Due.sentence(18, "FRIENDLY: that with the most rows of two FRIENDS");
        WalkingBus x = kids(9, 9, 9, 9, 9, 9, 9, 9);
        for (int k = 0; k < 4; k++) {
            x.tie(k, 7 - k, 1);
        }
        loops(x, 255, 4, 4, 0, 7, 1, 6, 2, 5, 3, 4);
        loops(x, 127, 4, 3, 1, 6, 2, 5, 3, 4, NONE, 0);
        loops(x, 3, 4, 0, 0, 1);
        loops(x, 1 | 128, 4, 1, 0, 7);
        x.tie(3, 4, 0);
        loops(x, 255, 4, 3, 0, 7, 1, 6, 2, 5, 3, 4);
        x.tie(0, 1, 1);
        loops(x, 255, 4, 3, 0, 7, 1, 6, 2, 5, 3, 4);
        Due.sentence(18, "of several the first as a row (row by row, the road's first; empty behind all)");
        WalkingBus y = kids(9, 9, 9, 9);
        y.tie(2, 3, 1);
        loops(y, 15, 4, 1, 0, 1, 2, 3);
        y.tie(1, 3, 1);
        loops(y, 15, 4, 1, 0, 1, 2, 3);
        loops(y, 14, 4, 1, 1, 3, NONE, 2);
        y.tie(2, 3, 2);
        loops(y, 15, 4, 1, 0, 2, 3, 1);
        WalkingBus z = kids(5, 9, 4);
        z.tie(0, 1, 1);
        loops(z, 3, 6, 1, 1, 0);
        loops(z, 7, 5, 1, 0, 1, NONE, 2);
        loops(z, 7, 9, 1, 1, 0, NONE, 2);
        // Friends by one side are no row of friends.
        z.tie(0, 1, 0);
        z.tie(0, 2, 1);
        loops(z, 7, 9, 0, 1, 0, NONE, 2);
        Due.sentence(18, "NONE: it is empty, there are no more, or there are no WAYS");
        loops(z, 5, 6, NONE);
        loops(z, 7, 10, NONE);
        loops(kids(4), 1, 11, 0, NONE, 0);
        Due.is("the last loop of eight", kids(9, 9, 9, 9, 9, 9, 9, 9).friendly(255, 4, 7), 7);
    }

    private static void refusedRopes() {
        Due.sentence(17, "ways: LOST: OUTSIDE: SET, more than 8 CHILDREN, r");
        for (int set : new int[] {0, 8, 15, 1024, -1, Due.LEAST, Due.MOST, 7 | 1 << 30, 7 | Due.LEAST}) {
            Due.refused("set " + set, x -> x.ways(set, 4), LOST);
        }
        Due.refused(Due::full, "nine children", x -> x.ways(511, 4), LOST);
        Due.refused(Due::full, "nine others", x -> x.ways(1022, 4), LOST);
        Due.refused(Due::full, "ten children", x -> x.ways(1023, 4), LOST);
        for (int r : Due.beyond(4, 11)) {
            Due.refused("r " + r, x -> x.ways(7, r), LOST);
        }
        Due.sentence(18, "friendly: OUTSIDE: SET, more than 8, r");
        for (int set : new int[] {0, 8, 15, 1024, -1, Due.LEAST, Due.MOST, 7 | 1 << 30, 7 | Due.LEAST}) {
            Due.refused("set " + set, x -> x.friendly(set, 4, 0), OUTSIDE);
        }
        Due.refused(Due::full, "nine children", x -> x.friendly(511, 4, 0), OUTSIDE);
        Due.refused(Due::full, "ten children", x -> x.friendly(1023, 4, -1), OUTSIDE);
        for (int r : Due.beyond(4, 11)) {
            Due.refused("r " + r, x -> x.friendly(7, r, 0), OUTSIDE);
        }
        Due.sentence(18, "friendly: UNKNOWN: k is not -1 .. 7");
        for (int k : Due.beyond(-1, 7)) {
            Due.refused("k " + k, x -> x.friendly(7, 4, k), UNKNOWN);
        }
        Due.refused("k where there are no ways", x -> x.friendly(3, 11, 8), UNKNOWN);
        Due.sentence(18, "friendly: OUTSIDE is told ahead of UNKNOWN");
        Due.refused("set, k", x -> x.friendly(0, 4, 8), OUTSIDE);
        Due.refused("r, k", x -> x.friendly(7, 12, -2), OUTSIDE);
        Due.refused(Due::full, "nine, k", x -> x.friendly(511, 4, 8), OUTSIDE);
    }

    public static void main(String[] args) {
        ropes();
        quarrels();
        friends();
        refusedRopes();
        Due.finish();
    }
}
