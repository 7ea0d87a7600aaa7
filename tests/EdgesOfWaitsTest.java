/** Promises 19 and 20: each sentence of the document that names an edge. */
public final class EdgesOfWaitsTest {
    private static final int OUTSIDE = Due.OUTSIDE;
    private static final long LOST = Due.LOST;

    private static void loss(int weights, int n, int c, int k, long upper, long lower) {
        WalkingBus x = new WalkingBus();
        String what = "loss of " + k + " minutes by " + weights;
        Due.is(what, x.loss(weights, n, c, k, 0), upper);
        Due.is(what + ", lower", x.loss(weights, n, c, k, 1), lower);
    }

    private static void patience(int weights, int n, int c, int want) {
        Due.is("patience by " + weights, new WalkingBus().patience(weights, n, c), want);
    }

    private static void losses() {
        Due.sentence(19, "WEIGHTS (the figures of a number 1 .. 99999999, the lowest is of 0)");
        loss(1, 2, 10, 0, 0, 1);
        loss(10, 2, 10, 1, 2, 1);
        loss(12, 1, 0, 1, 1, 3);
        loss(21, 1, 0, 1, 2, 3);
        loss(10000000, 1, 99, 7, 7, 1);
        loss(10000001, 1, 99, 7, 7, 2);
        loss(99999999, 1, 0, 9, 7, 2);
        loss(90000000, 9, 99, 9, 63, 1);
        Due.sentence(19, "wait k minutes at most (0 .. 9): each minute costs n; if it is not there by then, it is left: COST c (0 .. 99) and n times k");
        int[][] waits = {{0, 50}, {1, 53}, {2, 56}, {3, 9}, {4, 9}, {9, 9}};
        for (int[] wait : waits) {
            // Late by three minutes, for three children, cost 50.
            loss(1000, 3, 50, wait[0], wait[1], 1);
        }
        loss(1000, 9, 99, 2, 117, 1);
        loss(1000, 1, 0, 2, 2, 1);
        loss(1000, 1, 0, 0, 0, 1);
        loss(10000000, 9, 99, 6, 99 + 54, 1);
        loss(10000000, 9, 99, 8, 63, 1);
        Due.sentence(19, "Shares are told as upper and lower number (above 0) in least terms");
        // Weights 2, 0, 4: of six cases; cost 3.
        loss(402, 1, 3, 0, 2, 1);
        loss(402, 1, 3, 2, 4, 3);
        loss(404, 1, 3, 2, 1, 1);
        loss(9, 9, 99, 9, 0, 1);
        loss(208, 1, 0, 2, 2, 5);
    }

    private static void refusedLosses() {
        Due.sentence(19, "loss: LOST: OUTSIDE");
        for (int weights : Due.beyond(1, 99999999)) {
            Due.refused("weights " + weights, x -> x.loss(weights, 1, 0, 0, 0), LOST);
        }
        for (int n : Due.beyond(1, 9)) {
            Due.refused("n " + n, x -> x.loss(1, n, 0, 0, 0), LOST);
        }
        for (int c : Due.beyond(0, 99)) {
            Due.refused("c " + c, x -> x.loss(1, 1, c, 0, 0), LOST);
        }
        for (int k : Due.beyond(0, 9)) {
            Due.refused("k " + k, x -> x.loss(1, 1, 0, k, 0), LOST);
        }
        for (int which : Due.beyond(0, 1)) {
            Due.refused("which " + which, x -> x.loss(1, 1, 0, 0, which), LOST);
        }
        Due.sentence(20, "patience: OUTSIDE");
        for (int weights : Due.beyond(1, 99999999)) {
            Due.refused("weights " + weights, x -> x.patience(weights, 1, 0), OUTSIDE);
        }
        for (int n : Due.beyond(1, 9)) {
            Due.refused("n " + n, x -> x.patience(1, n, 0), OUTSIDE);
        }
        for (int c : Due.beyond(0, 99)) {
            Due.refused("c " + c, x -> x.patience(1, 1, c), OUTSIDE);
        }
    }

    private static void patiences() {
        Due.sentence(20, "PATIENCE: the k of the least LOSS");
        patience(11, 1, 5, 1);
        patience(10, 9, 99, 1);
        patience(10000000, 9, 99, 7);
        patience(10000000, 1, 99, 7);
        patience(10000000, 9, 62, 0);
        patience(10000000, 9, 64, 7);
        patience(321, 2, 10, 2);
        patience(321, 9, 1, 0);
        Due.sentence(20, "of several the least");
        patience(1, 1, 0, 0);
        patience(1, 9, 99, 0);
        patience(10, 5, 5, 0);
        patience(10, 5, 6, 1);
        patience(10000000, 9, 63, 0);
        patience(11, 1, 0, 0);
        // 0 minutes: 6 and 6; one: 3 and 9; two: 3 and 6.
        patience(110, 3, 6, 2);
        // 0 minutes: 9 and 9, one: 3 and 12; two: 3 and 6, as any more.
        patience(110, 3, 9, 2);
        // 0 minutes: 2 and 2; one: 1 and 3, as much; two: 1 and 2, less.
        patience(110, 1, 2, 2);
        // 0 minutes: 2 of 4 and 4: 12; one: 2 of 2 and 6: 10; two: 2 of 2 and 4: 8.
        patience(120, 2, 4, 2);
        patience(99999999, 9, 99, 7);
        patience(99999999, 9, 0, 0);
    }

    public static void main(String[] args) {
        losses();
        refusedLosses();
        patiences();
        Due.finish();
    }
}
