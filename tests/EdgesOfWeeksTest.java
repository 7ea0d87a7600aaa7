/** Promises 21 to 23: each sentence of the document that names an edge. */
public final class EdgesOfWeeksTest {
    private static final int UNKNOWN = Due.UNKNOWN, OUTSIDE = Due.OUTSIDE, FULL = Due.FULL, NONE = Due.NONE;

    private static WalkingBus helpers(int... days) {
        WalkingBus x = new WalkingBus();
        for (int d : days) {
            x.helper(d);
        }
        return x;
    }

    private static void week(WalkingBus x, int need, int most, int... sets) {
        Due.is("most days by " + need, x.week(need, -1), most);
        for (int k = 0; k < 5; k++) {
            Due.is("day " + k + " by " + need, x.week(need, k), sets.length == 0 ? NONE : sets[k]);
        }
    }

    private static void helper() {
        Due.sentence(21, "HELPERS, 5 ever, numbered as they come");
        WalkingBus x = new WalkingBus();
        for (int k = 0; k < 5; k++) {
            Due.is("the next one", x.days(k, 0), UNKNOWN);
            Due.is("its number", x.helper(31 - k), k);
            Due.is("helpers", x.many(4), k + 1);
        }
        for (int k = 0; k < 5; k++) {
            Due.is("days", x.days(k, 0), 31 - k);
        }
        Due.sentence(21, "helper: FULL");
        Due.refused(Due::full, "a sixth", y -> y.helper(1), FULL);
        Due.is("a sixth", x.helper(0), FULL);
        Due.is("a sixth", x.days(5, 0), UNKNOWN);
        Due.sentence(21, "helper: OUTSIDE: DAYS (a set of 0 .. 4)");
        for (int days : Due.beyond(0, 31)) {
            Due.refused("days " + days, y -> y.helper(days), OUTSIDE);
        }
        Due.refused("day 5", y -> y.helper(1 << 5), OUTSIDE);
        Due.refused("day 31", y -> y.helper(1 | Due.LEAST), OUTSIDE);
        for (int days = 0; days <= 31; days++) {
            WalkingBus y = new WalkingBus();
            Due.is("days " + days, y.helper(days), 0);
            Due.is("days " + days, y.days(0, 0), days);
        }
        Due.sentence(21, "helper: OUTSIDE is told ahead of FULL");
        Due.refused(Due::full, "days", y -> y.helper(32), OUTSIDE);
        Due.refused(Due::full, "days", y -> y.helper(-1), OUTSIDE);
    }

    private static void days() {
        Due.sentence(22, "DAYS of a HELPER become so: what they were");
        WalkingBus x = helpers(5, 6, 7, 8, 9);
        Due.is("were", x.days(4, 31), 9);
        Due.is("were", x.days(4, 0), 31);
        Due.is("were", x.days(4, 0), 0);
        Due.is("those of another", x.days(3, 8), 8);
        Due.sentence(22, "days: UNKNOWN");
        for (int k : Due.beyond(0, 1)) {
            Due.refused("helper " + k, y -> y.days(k, 1), UNKNOWN);
        }
        Due.is("of none", new WalkingBus().days(0, 1), UNKNOWN);
        Due.is("of five", x.days(5, 1), UNKNOWN);
        Due.sentence(22, "days: OUTSIDE");
        for (int days : Due.beyond(0, 31)) {
            Due.refused("days " + days, y -> y.days(0, days), OUTSIDE);
        }
        Due.sentence(22, "days: UNKNOWN is told ahead of OUTSIDE");
        Due.refused("both", y -> y.days(2, 32), UNKNOWN);
        Due.refused("both", y -> y.days(-1, -1), UNKNOWN);
    }

    private static void weeks() {
        Due.sentence(23, "A WEEK by NEED (0 .. 3 HELPERS, the same each day)");
        week(new WalkingBus(), 0, 0, 0, 0, 0, 0, 0);
        week(helpers(31, 31), 0, 0, 0, 0, 0, 0, 0);
        week(helpers(31), 1, 5, 1, 1, 1, 1, 1);
        week(helpers(31, 31), 2, 5, 3, 3, 3, 3, 3);
        week(helpers(31, 31, 31), 3, 5, 7, 7, 7, 7, 7);
        week(helpers(31, 31, 31, 31, 31), 3, 3, 7, 7, 25, 26, 28);
        Due.sentence(23, "of each day a set of so many of those who can; NONE: there is none");
        week(new WalkingBus(), 1, NONE);
        week(helpers(30), 1, NONE);
        week(helpers(15), 1, NONE);
        week(helpers(30, 1), 1, 4, 2, 1, 1, 1, 1);
        week(helpers(31), 2, NONE);
        week(helpers(31, 31), 3, NONE);
        week(helpers(31, 30, 31), 2, 4, 5, 3, 3, 3, 6);
        week(helpers(31, 30, 31), 3, NONE);
        week(helpers(0, 0, 0, 0, 0), 1, NONE);
        week(helpers(1, 2, 4, 8, 16), 1, 1, 1, 2, 4, 8, 16);
        week(helpers(1, 2, 4, 8, 16), 2, NONE);
        week(helpers(31, 31, 31, 31, 15), 3, 3, 7, 19, 25, 28, 14);
        WalkingBus x = helpers(31, 31, 1);
        week(x, 2, 5, 3, 3, 3, 3, 3);
        x.days(1, 30);
        week(x, 2, 5, 5, 3, 3, 3, 3);
        x.days(1, 14);
        week(x, 2, NONE);
        week(x, 1, 2, 4, 1, 2, 2, 1);
        x.days(0, 0);
        week(x, 1, NONE);
        week(x, 0, 0, 0, 0, 0, 0, 0);
        Due.sentence(23, "the one by which the most days of one HELPER are the fewest");
        week(helpers(31, 31), 1, 3, 1, 1, 1, 2, 2);
        week(helpers(31, 31, 31), 1, 2, 1, 1, 2, 2, 4);
        week(helpers(31, 31, 31, 31, 31), 1, 1, 1, 2, 4, 8, 16);
        week(helpers(31, 31, 31, 31), 1, 2, 1, 1, 2, 2, 4);
        week(helpers(31, 16), 1, 4, 1, 1, 1, 1, 2);
        Due.sentence(23, "of several the first as a row of sets, day by day");
        week(helpers(31, 31, 3), 1, 2, 1, 4, 1, 2, 2);
        week(helpers(16, 31), 1, 4, 2, 2, 2, 2, 1);
        week(helpers(31, 1), 1, 4, 2, 1, 1, 1, 1);
        week(helpers(31, 31, 31, 31, 31), 2, 2, 3, 3, 12, 20, 24);
    }

    private static void refusedWeeks() {
        Due.sentence(23, "week: OUTSIDE: NEED");
        for (int need : Due.beyond(0, 3)) {
            Due.refused("need " + need, x -> x.week(need, 0), OUTSIDE);
        }
        Due.sentence(23, "week: UNKNOWN: k is not -1 .. 4");
        for (int k : Due.beyond(-1, 4)) {
            Due.refused("k " + k, x -> x.week(0, k), UNKNOWN);
            Due.refused("k " + k + " where there is none", x -> x.week(3, k), UNKNOWN);
        }
        Due.sentence(23, "week: OUTSIDE is told ahead of UNKNOWN");
        Due.refused("both", x -> x.week(4, 5), OUTSIDE);
        Due.refused("both", x -> x.week(-1, -2), OUTSIDE);
    }

    public static void main(String[] args) {
        helper();
        days();
        weeks();
        refusedWeeks();
        Due.finish();
    }
}
