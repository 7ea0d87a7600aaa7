import java.util.List;
import java.util.function.ToLongFunction;

/** Promises 24 to 28, and 33: each sentence of the document that names an edge. */
public final class EdgesOfSheetsTest {
    private static final int UNKNOWN = Due.UNKNOWN, OUTSIDE = Due.OUTSIDE;
    private static final long LOST = Due.LOST;

    // ---- promise 24

    private static void sheet() {
        Due.sentence(24, "SHEETS 0 .. 3 have nothing (at first), or a row of 0 .. 100 numbers (0 at first) of a SORT");
        for (int k = 0; k < 4; k++) {
            for (int sort = 0; sort < 3; sort++) {
                WalkingBus x = new WalkingBus();
                Due.is("nothing", x.cell(k, 0, sort), LOST);
                Due.is("nothing", x.fault(), Due.NULL);
                Due.is("no numbers", x.sheet(k, sort, 0), 1);
                Due.is("none is there", x.cell(k, 0, sort), LOST);
                Due.is("none is there", x.fault(), Due.INDEX);
                Due.is("a hundred numbers", x.sheet(k, sort, 100), 1);
                for (int i = 0; i < 100; i++) {
                    Due.is("number " + i, x.cell(k, i, sort), 0);
                }
                Due.is("no more", x.cell(k, 100, sort), LOST);
                Due.is("the last one", x.put(k, 99, 7), 1);
                Due.is("no more", x.put(k, 100, 7), -13);
            }
        }
        Due.sentence(24, "A SHEET gets a new row: 1");
        WalkingBus y = new WalkingBus();
        Due.row(y, 0, 2, 1, 2, 3, 4);
        Due.is("shorter", y.sheet(0, 1, 2), 1);
        Due.is("its first", y.cell(0, 0, 1), 0);
        Due.is("its last", y.cell(0, 1, 1), 0);
        Due.is("no more", y.cell(0, 2, 1), LOST);
        Due.is("the same again", y.put(0, 1, 9), 1);
        Due.is("the same again", y.sheet(0, 1, 2), 1);
        Due.is("its last", y.cell(0, 1, 1), 0);
        Due.is("longer", y.sheet(0, 2, 4), 1);
        for (int i = 0; i < 4; i++) {
            Due.is("number " + i, y.cell(0, i, 2), 0);
        }
        Due.sentence(24, "sheet: UNKNOWN");
        for (int k : Due.beyond(0, 3)) {
            Due.refusedAndCleared("sheet " + k, x -> x.sheet(k, 0, 1), UNKNOWN);
        }
        Due.sentence(24, "sheet: OUTSIDE: sort, n above 100");
        for (int sort : Due.beyond(0, 2)) {
            Due.refusedAndCleared("sort " + sort, x -> x.sheet(0, sort, 1), OUTSIDE);
        }
        Due.refusedAndCleared("n 101", x -> x.sheet(0, 0, 101), OUTSIDE);
        Due.refusedAndCleared("the most", x -> x.sheet(0, 0, Due.MOST), OUTSIDE);
        Due.refusedAndCleared("n 101 of one with nothing", x -> x.sheet(3, 0, 101), OUTSIDE);
        Due.sentence(24, "sheet: SIZE (a length below 0)");
        Due.faulty("-1", x -> x.sheet(0, 0, -1), Due.SIZE);
        Due.faulty("the least", x -> x.sheet(0, 1, Due.LEAST), Due.SIZE);
        Due.faulty("of one with nothing", x -> x.sheet(3, 0, -1), Due.SIZE);
        Due.sentence(24, "sheet: UNKNOWN, then OUTSIDE, then SIZE");
        Due.refusedAndCleared("sheet, sort", x -> x.sheet(4, 3, 1), UNKNOWN);
        Due.refusedAndCleared("sheet, n", x -> x.sheet(4, 0, 101), UNKNOWN);
        Due.refusedAndCleared("sheet, size", x -> x.sheet(-1, 0, -1), UNKNOWN);
        Due.refusedAndCleared("sort, size", x -> x.sheet(0, 3, -1), OUTSIDE);
    }

    // ---- promise 25

    private static void lose() {
        Due.sentence(25, "A SHEET has nothing: 1; 0: it had nothing");
        WalkingBus x = Due.something();
        int[] had = {1, 1, 1, 0};
        for (int k = 0; k < 4; k++) {
            Due.is("had", x.lose(k), had[k]);
            Due.is("had", x.lose(k), 0);
            Due.is("has", x.cell(k, 0, k % 3), LOST);
            Due.is("has", x.fault(), Due.NULL);
            Due.is("a new row", x.sheet(k, 2, 1), 1);
            Due.is("is 0 at first", x.cell(k, 0, 2), 0);
        }
        Due.refused("one with nothing", y -> y.lose(3), 0);
        Due.sentence(25, "lose: UNKNOWN");
        for (int k : Due.beyond(0, 3)) {
            Due.refused("sheet " + k, y -> y.lose(k), UNKNOWN);
        }
    }

    // ---- promise 26

    private static void put() {
        Due.sentence(26, "a SORT: 0 bytes, 1 shorts, 2 ints; what comes to a cell of it is cut to its SORT");
        int[] values = {0, 1, -1, 127, 128, 129, -128, -129, 255, 256, 257, -256, 32767, 32768, 32769, -32768, -32769, 65535,
            65536, 65537, -65536, 1 << 24, 0x12345678, Due.MOST, Due.LEAST, Due.MOST - 1, Due.LEAST + 1};
        WalkingBus x = new WalkingBus();
        for (int sort = 0; sort < 3; sort++) {
            x.sheet(sort, sort, 1);
            for (int v : values) {
                long cut = sort == 0 ? (byte) v : sort == 1 ? (short) v : v;
                Due.is("put", x.put(sort, 0, v), 1);
                Due.is(v + " as sort " + sort, x.cell(sort, 0, sort), cut);
            }
        }
        Due.sentence(26, "Cell i of a SHEET becomes v: 1");
        WalkingBus y = Due.something();
        Due.is("the first", y.put(0, 0, 5), 1);
        Due.is("the last", y.put(0, 3, 6), 1);
        int[] cells = {5, 2, 3, 6};
        for (int i = 0; i < 4; i++) {
            Due.is("cell " + i, y.cell(0, i, 0), cells[i]);
        }
        Due.sentence(26, "put: UNKNOWN");
        for (int k : Due.beyond(0, 3)) {
            Due.refusedAndCleared("sheet " + k, z -> z.put(k, 0, 1), UNKNOWN);
            Due.refusedAndCleared("sheet " + k + ", index", z -> z.put(k, -1, 1), UNKNOWN);
        }
        Due.sentence(26, "put: NULL");
        Due.faulty("nothing", z -> z.put(3, 0, 1), Due.NULL);
        Due.faulty("nothing, index", z -> z.put(3, -1, 1), Due.NULL);
        Due.sentence(26, "put: INDEX");
        for (int i : Due.beyond(0, 3)) {
            Due.faulty("cell " + i, z -> z.put(0, i, 1), Due.INDEX);
        }
        Due.faulty("of an empty row", z -> z.put(2, 0, 1), Due.INDEX);
        Due.faulty("of an empty row", z -> z.put(2, -1, 1), Due.INDEX);
    }

    // ---- promise 27

    private static void cell() {
        Due.sentence(27, "Cell i of what a SHEET has, taken as a row of a SORT");
        WalkingBus x = Due.something();
        int[] cells = {0, 2, 3, -7};
        for (int i = 0; i < 4; i++) {
            Due.is("cell " + i, x.cell(0, i, 0), cells[i]);
            Due.is("no fault", x.fault(), 0);
        }
        Due.is("a short", x.cell(1, 0, 1), 300);
        Due.sentence(27, "cell: LOST: UNKNOWN, OUTSIDE: sort");
        for (int k : Due.beyond(0, 3)) {
            Due.refusedAndCleared("sheet " + k, y -> y.cell(k, 0, 0), LOST);
        }
        for (int sort : Due.beyond(0, 2)) {
            Due.refusedAndCleared("sort " + sort, y -> y.cell(0, 0, sort), LOST);
            Due.refusedAndCleared("sort " + sort + " of nothing", y -> y.cell(3, 0, sort), LOST);
            Due.refusedAndCleared("sort " + sort + ", index", y -> y.cell(0, 4, sort), LOST);
        }
        Due.sentence(27, "cell: FAULTS CAST (nothing is no CAST)");
        Due.faultyLost("bytes as shorts", y -> y.cell(0, 0, 1), Due.CAST);
        Due.faultyLost("bytes as ints", y -> y.cell(0, 0, 2), Due.CAST);
        Due.faultyLost("shorts as bytes", y -> y.cell(1, 0, 0), Due.CAST);
        Due.faultyLost("shorts as ints", y -> y.cell(1, 0, 2), Due.CAST);
        Due.faultyLost("an empty row of ints as bytes", y -> y.cell(2, 0, 0), Due.CAST);
        Due.faultyLost("ahead of index", y -> y.cell(0, 4, 2), Due.CAST);
        Due.faultyLost("ahead of index", y -> y.cell(0, -1, 2), Due.CAST);
        Due.sentence(27, "cell: FAULTS NULL");
        for (int sort = 0; sort < 3; sort++) {
            int taken = sort;
            Due.faultyLost("as sort " + sort, y -> y.cell(3, 0, taken), Due.NULL);
            Due.faultyLost("as sort " + sort + ", index", y -> y.cell(3, -1, taken), Due.NULL);
        }
        Due.sentence(27, "cell: FAULTS INDEX");
        for (int i : Due.beyond(0, 3)) {
            Due.faultyLost("cell " + i, y -> y.cell(0, i, 0), Due.INDEX);
        }
        Due.faultyLost("of an empty row", y -> y.cell(2, 0, 2), Due.INDEX);
    }

    // ---- promise 28

    private static void moved(int i, int j, int n, int... cells) {
        WalkingBus x = new WalkingBus();
        Due.row(x, 0, 0, 1, 2, 3, 4, 5);
        Due.is(n + " from " + i + " to " + j, x.copy(0, i, 0, j, n), n);
        for (int c = 0; c < 5; c++) {
            Due.is(n + " from " + i + " to " + j + ": cell " + c, x.cell(0, c, 0), cells[c]);
        }
    }

    private static void copy() {
        Due.sentence(28, "n cells of a SHEET from i on go to another one (perhaps the same) from j on, as they were: n");
        moved(0, 1, 4, 1, 1, 2, 3, 4);
        moved(1, 0, 4, 2, 3, 4, 5, 5);
        moved(0, 2, 3, 1, 2, 1, 2, 3);
        moved(2, 0, 3, 3, 4, 5, 4, 5);
        moved(0, 0, 5, 1, 2, 3, 4, 5);
        moved(0, 4, 1, 1, 2, 3, 4, 1);
        moved(4, 0, 1, 5, 2, 3, 4, 5);
        for (int at = 0; at <= 5; at++) {
            moved(at, 5 - at, 0, 1, 2, 3, 4, 5);
        }
        for (int sort = 0; sort < 3; sort++) {
            WalkingBus x = new WalkingBus();
            Due.row(x, 1, sort, 10, 20, 30);
            Due.row(x, 2, sort, 1, 2);
            Due.is("to another", x.copy(1, 1, 2, 0, 2), 2);
            Due.is("came", x.cell(2, 0, sort), 20);
            Due.is("came", x.cell(2, 1, sort), 30);
            Due.is("stays", x.cell(1, 1, sort), 20);
            Due.is("no fault", x.fault(), 0);
            x.put(2, 0, 7);
            Due.is("stays", x.cell(1, 1, sort), 20);
        }
        Due.sentence(28, "copy: UNKNOWN");
        for (int k : Due.beyond(0, 3)) {
            Due.refusedAndCleared("sheet " + k, x -> x.copy(k, 0, 0, 0, 1), UNKNOWN);
            Due.refusedAndCleared("other " + k, x -> x.copy(0, 0, k, 0, 1), UNKNOWN);
            Due.refusedAndCleared("sheet " + k + ", nothing", x -> x.copy(k, 0, 3, 0, 1), UNKNOWN);
            Due.refusedAndCleared("other " + k + ", nothing", x -> x.copy(3, 0, k, 0, 1), UNKNOWN);
            Due.refusedAndCleared("other " + k + ", index", x -> x.copy(0, -1, k, -1, -1), UNKNOWN);
        }
    }

    private static void faultsOfCopy() {
        Due.sentence(28, "copy: FAULTS NULL (the first, the other)");
        Due.faulty("the first", x -> x.copy(3, 0, 0, 0, 1), Due.NULL);
        Due.faulty("the other", x -> x.copy(0, 0, 3, 0, 1), Due.NULL);
        Due.faulty("both", x -> x.copy(3, 0, 3, 0, 0), Due.NULL);
        Due.faulty("the first, index", x -> x.copy(3, -1, 0, 0, 1), Due.NULL);
        Due.faulty("the other, index", x -> x.copy(0, -1, 3, 0, 1), Due.NULL);
        for (int k = 0; k < 3; k++) {
            int other = k;
            Due.faulty("the first is no cast", x -> x.copy(3, 0, other, 0, 0), Due.NULL);
            Due.faulty("the other is no cast", x -> x.copy(other, 0, 3, 0, 0), Due.NULL);
        }
        Due.sentence(28, "copy: FAULTS CAST (unlike SORTS)");
        for (int k = 0; k < 3; k++) {
            for (int other = 0; other < 3; other++) {
                int first = k;
                int second = other;
                if (k != other) {
                    Due.faulty("of " + k + " to " + other, x -> x.copy(first, 0, second, 0, 0), Due.CAST);
                    Due.faulty("ahead of index", x -> x.copy(first, -1, second, 200, -1), Due.CAST);
                }
            }
        }
        Due.sentence(28, "copy: FAULTS INDEX: i, j, n below 0 or beyond");
        int[][] wrong = {{-1, 0, 1}, {0, -1, 1}, {0, 0, -1}, {-1, 0, 0}, {0, -1, 0}, {5, 0, 0}, {0, 5, 0}, {4, 0, 1}, {0, 4, 1},
            {0, 0, 5}, {1, 0, 4}, {0, 1, 4}, {3, 0, 2}, {0, 3, 2}, {4, 4, -1}, {Due.MOST, 0, 1}, {0, Due.MOST, 1},
            {0, 0, Due.MOST}, {1, 1, Due.MOST}, {Due.MOST, Due.MOST, Due.MOST}, {Due.LEAST, 0, 1}, {0, Due.LEAST, 1},
            {0, 0, Due.LEAST}, {Due.LEAST, Due.LEAST, Due.LEAST}, {Due.MOST, 0, Due.LEAST}, {1, 1, Due.LEAST}};
        for (int[] w : wrong) {
            Due.faulty(w[2] + " from " + w[0] + " to " + w[1], x -> x.copy(0, w[0], 0, w[1], w[2]), Due.INDEX);
        }
        WalkingBus x = new WalkingBus();
        Due.row(x, 0, 1, 1, 2, 3);
        Due.row(x, 1, 1, 9);
        Due.row(x, 2, 1);
        Due.is("more than the other has", x.copy(0, 0, 1, 0, 2), -13);
        Due.is("more than the first has", x.copy(1, 0, 0, 0, 2), -13);
        Due.is("nothing of it has gone", x.cell(1, 0, 1), 9);
        Due.is("one to none", x.copy(0, 0, 2, 0, 1), -13);
        Due.is("none to none", x.copy(2, 0, 2, 0, 0), 0);
        Due.is("none, from the end to the end", x.copy(0, 3, 1, 1, 0), 0);
        Due.is("none, behind the end of the other", x.copy(0, 3, 1, 2, 0), -13);
    }

    // ---- promise 33

    private static void fault() {
        Due.sentence(33, "(0 ahead of any)");
        WalkingBus x = new WalkingBus();
        Due.is("a new object", x.fault(), 0);
        x.holds(3);
        x.lose(4);
        Due.is("no call has named one", x.fault(), 0);
        Due.sentence(33, "The FAULT of the latest call that names one: 0: it came to none");
        comesToNone("streets", y -> y.streets(0, 0, 0, 0), -100);
        comesToNone("late", y -> y.late(7, 0, 0, 99, 0, 0, 0, 3, 0), 0);
        comesToNone("mean", y -> y.mean(7, 0, 0, 0, 0, 0, 3, 1), 10);
        comesToNone("sheet", y -> y.sheet(3, 0, 0), 1);
        comesToNone("put", y -> y.put(0, 0, 1), 1);
        comesToNone("cell", y -> y.cell(0, 0, 0), 0);
        comesToNone("copy", y -> y.copy(0, 0, 0, 0, 0), 0);
        comesToNone("as", y -> y.as(0, 0), 1);
        Due.sentence(33, "(a call that names none leaves it, a refused one too)");
        List<ToLongFunction<WalkingBus>> namingNone = List.of(y -> y.ofRoad(0, 0), y -> y.way(0, 1, 0), y -> y.along(0, 1, 0),
            y -> y.child(0, 0, 9, 0), y -> y.ofChild(0, 0), y -> y.ready(0, 0), y -> y.tie(0, 1, 0), y -> y.start(7, 0, 99, 0),
            y -> y.gate(7, 0, 99, 0, 0), y -> y.holds(1), y -> y.grown(7), y -> y.split(7, 0, 99, 0, 0), y -> y.ways(7, 4),
            y -> y.friendly(7, 4, -1), y -> y.loss(1, 1, 0, 0, 0), y -> y.patience(1, 1, 0), y -> y.helper(0), y -> y.days(0, 0),
            y -> y.week(0, 0), y -> y.lose(0), y -> y.tell(0), y -> y.tag(0), y -> y.trace() & 1, y -> y.many(0));
        for (int call = 0; call < namingNone.size(); call++) {
            WalkingBus y = Due.something();
            Due.is("call " + call + " is answered", namingNone.get(call).applyAsLong(y) < 0 ? 1 : 0, 0);
            Due.is("call " + call, y.fault(), Due.INDEX);
            y.sheet(0, 0, -1);
            namingNone.get(call).applyAsLong(y);
            y.lose(4);
            y.tell(-1);
            y.many(7);
            Due.is("call " + call, y.fault(), Due.SIZE);
            Due.is("asked again", y.fault(), Due.SIZE);
        }
    }

    private static void comesToNone(String what, ToLongFunction<WalkingBus> call, long want) {
        WalkingBus x = Due.something();
        Due.is(what, call.applyAsLong(x), want);
        Due.is(what + " came to none", x.fault(), 0);
    }

    public static void main(String[] args) {
        sheet();
        lose();
        put();
        cell();
        copy();
        faultsOfCopy();
        fault();
        Due.finish();
    }
}
