import java.util.ArrayList;
import java.util.List;

/**
 * The same calls to the program and to the model, from a fixed row of numbers; each answer must be the same.
 * Arguments: none for the usual count of runs, or a count.
 */
public final class ModelTest {
    private static long seed = 1;
    private static long passed = 0;
    private static long failed = 0;
    private static final List<String> calls = new ArrayList<>();
    private static WalkingBus bus;
    private static Model model;

    private static int pick(int bound) {
        seed = seed * 6364136223846793005L + 1442695040888963407L;
        return (int) ((seed >>> 33) % bound);
    }

    private static int between(int least, int most) {
        return least + pick(most - least + 1);
    }

    private static boolean chance(int hundredths) {
        return pick(100) < hundredths;
    }

    private static final int[] ODD = {-1, -2, Integer.MIN_VALUE, Integer.MAX_VALUE, 1 << 30, 101, 201, 11, 12, 8, 100};

    /** A number as the document wants it, and now and then one that it does not. */
    private static int arg(int least, int most) {
        if (chance(3)) {
            return ODD[pick(ODD.length)];
        }
        if (chance(4)) {
            return chance(50) ? least - 1 : most + 1;
        }
        return between(least, most);
    }

    private static void same(String call, long got, long due) {
        calls.add(call + " = " + got);
        if (got == due) {
            passed++;
            return;
        }
        failed++;
        if (failed <= 3) {
            System.out.println("the model says " + due + " where the program says:");
            for (String line : calls) {
                System.out.println("  " + line);
            }
        }
    }

    private static String call(String name, int... args) {
        StringBuilder text = new StringBuilder(name).append('(');
        for (int k = 0; k < args.length; k++) {
            text.append(k == 0 ? "" : ", ").append(args[k]);
        }
        return text.append(')').toString();
    }

    // ---- texts

    private static String text(boolean isDense) {
        int n = isDense ? between(2, 5) : between(2, 7);
        StringBuilder t = new StringBuilder("n").append(n);
        int roads = isDense ? between(n, 12) : between(1, 12);
        int longest = chance(50) ? 3 : chance(50) ? 12 : 30;
        int crossings = chance(20) ? 100 : 35;
        for (int k = 0; k < roads; k++) {
            int a = k + 1 < n ? k + 1 : pick(n);
            int b = k + 1 < n && isDense ? pick(k + 1) : pick(n);
            if (a == b) {
                b = (a + 1) % n;
            }
            t.append(';').append(a).append(b);
            int length = between(1, longest);
            t.append(length < 10 && chance(5) ? "0" : "").append(length);
            if (chance(crossings)) {
                t.append('c').append(between(1, 9)).append(between(1, 9));
            }
        }
        return t.append(";s").append(pick(n)).toString();
    }

    private static String spoilt(String t) {
        StringBuilder s = new StringBuilder(t);
        int at = pick(s.length());
        String codes = "0123456789ncs;x";
        switch (pick(5)) {
            case 0:
                s.setLength(at);
                break;
            case 1:
                s.deleteCharAt(at);
                break;
            case 2:
                s.insert(at, codes.charAt(pick(codes.length())));
                break;
            case 3:
                s.append(codes.charAt(pick(codes.length())));
                break;
            default:
                s.setCharAt(at, codes.charAt(pick(codes.length())));
                break;
        }
        return s.toString();
    }

    private static void sheet(int k, int sort, int n) {
        same(call("sheet", k, sort, n), bus.sheet(k, sort, n), model.sheet(k, sort, n));
    }

    private static void put(int k, int i, int v) {
        same(call("put", k, i, v), bus.put(k, i, v), model.put(k, i, v));
    }

    private static void fault() {
        same("fault()", bus.fault(), model.fault());
    }

    private static void streets(String t) {
        int sort = pick(3);
        int before = pick(3);
        int length = Math.min(t.length(), 100 - before);
        sheet(0, sort, Math.min(100, before + length + pick(3)));
        for (int i = 0; i < length; i++) {
            put(0, before + i, t.charAt(i) + (sort == 0 && chance(1) ? 256 : 0));
        }
        calls.add("text " + t.substring(0, length));
        streets(0, sort, before, length);
        fault();
    }

    private static void streets(int sheet, int sort, int i, int n) {
        same(call("streets", sheet, sort, i, n), bus.streets(sheet, sort, i, n), model.streets(sheet, sort, i, n));
    }

    // ---- calls by kinds

    private static void askStreets() {
        int n = Math.max(1, model.many(0));
        int a = arg(0, n - 1), b = arg(0, n - 1), k = arg(0, 6), what = arg(0, 2);
        same(call("way", a, b, what), bus.way(a, b, what), model.way(a, b, what));
        same(call("along", a, b, k), bus.along(a, b, k), model.along(a, b, k));
        int road = arg(0, Math.max(1, model.many(1)) - 1), part = arg(0, 4);
        same(call("ofRoad", road, part), bus.ofRoad(road, part), model.ofRoad(road, part));
        int count = arg(0, 6);
        same(call("many", count), bus.many(count), model.many(count));
    }

    private static void child() {
        int kind = arg(0, 2), corner = arg(0, Math.max(1, model.many(0)) - 1), age = arg(4, 11), ready = arg(0, 60);
        same(call("child", kind, corner, age, ready), bus.child(kind, corner, age, ready),
                model.child(kind, corner, age, ready));
    }

    private static int kid() {
        return arg(0, Math.max(1, model.many(3)) - 1);
    }

    private static void askChildren() {
        int x = kid(), y = kid(), what = arg(0, 7), v = arg(0, 60), bond = arg(0, 2);
        same(call("tie", x, y, bond), bus.tie(x, y, bond), model.tie(x, y, bond));
        same(call("ofChild", x, what), bus.ofChild(x, what), model.ofChild(x, what));
        if (chance(30)) {
            same(call("ready", x, v), bus.ready(x, v), model.ready(x, v));
        }
    }

    private static int set(int most) {
        if (chance(4)) {
            return arg(0, 1 << 10);
        }
        int kids = model.many(3);
        if (kids == 0) {
            return arg(0, 3);
        }
        int set = 0;
        int size = between(1, Math.min(most, kids));
        for (int k = 0; k < size; k++) {
            set |= 1 << pick(kids);
        }
        return set;
    }

    private static void askLine() {
        int set = set(chance(30) ? 10 : 4);
        int corner = arg(0, Math.max(1, model.many(0)) - 1);
        int sort = pick(3);
        List<Integer> gates = new ArrayList<>();
        for (int x = 0; x < model.many(3); x++) {
            int gate = model.ofChild(x, 1);
            if ((set >> x & 1) != 0 && !gates.contains(gate)) {
                gates.add(pick(gates.size() + 1), gate);
            }
        }
        sheet(1, sort, gates.size() + pick(2));
        for (int i = 0; i < gates.size(); i++) {
            put(1, i, chance(2) ? arg(0, 7) : gates.get(i));
        }
        int m = arg(0, chance(50) ? 60 : 200), bell = arg(0, 200), which = arg(0, 1);
        int sheet = chance(3) ? arg(0, 3) : 1;
        int asSort = chance(3) ? arg(0, 2) : sort;
        int i = chance(3) ? arg(0, 1) : 0;
        int n = chance(5) ? arg(0, 4) : gates.size();
        same(call("late", set, corner, m, bell, sheet, asSort, i, n, which),
                bus.late(set, corner, m, bell, sheet, asSort, i, n, which),
                model.late(set, corner, m, bell, sheet, asSort, i, n, which));
        fault();
        same(call("mean", set, corner, m, sheet, asSort, i, n, which),
                bus.mean(set, corner, m, sheet, asSort, i, n, which),
                model.mean(set, corner, m, sheet, asSort, i, n, which));
        fault();
    }

    private static void askStart() {
        int set = set(5), corner = arg(0, Math.max(1, model.many(0)) - 1), bell = arg(0, chance(50) ? 200 : 90);
        int h = chance(20) ? 0 : arg(0, 100), k = arg(0, 3);
        same(call("start", set, corner, bell, h), bus.start(set, corner, bell, h), model.start(set, corner, bell, h));
        same(call("gate", set, corner, bell, h, k), bus.gate(set, corner, bell, h, k),
                model.gate(set, corner, bell, h, k));
    }

    private static void askGrown() {
        int set = set(10);
        if (chance(40)) {
            int v = arg(1, 9);
            same(call("holds", v), bus.holds(v), model.holds(v));
        }
        same(call("grown", set), bus.grown(set), model.grown(set));
    }

    private static void askSplit() {
        int set = set(6), corner = arg(0, Math.max(1, model.many(0)) - 1), bell = arg(60, 200), h = arg(0, 100);
        int first = arg(0, 3);
        for (int what = 0; what < 2; what++) {
            int asked = (first + what) % 5;
            same(call("split", set, corner, bell, h, asked), bus.split(set, corner, bell, h, asked),
                    model.split(set, corner, bell, h, asked));
        }
    }

    private static void askRope() {
        int set = set(chance(5) ? 10 : 6), r = chance(50) ? 4 : arg(4, 11), k = arg(-1, 7);
        same(call("ways", set, r), bus.ways(set, r), model.ways(set, r));
        same(call("friendly", set, r, -1), bus.friendly(set, r, -1), model.friendly(set, r, -1));
        same(call("friendly", set, r, k), bus.friendly(set, r, k), model.friendly(set, r, k));
    }

    private static void askLate() {
        int weights = chance(50) ? arg(1, 99999999) : arg(1, 9999), n = arg(1, 9), c = arg(0, 99), k = arg(0, 9);
        int which = arg(0, 1);
        same(call("loss", weights, n, c, k, which), bus.loss(weights, n, c, k, which),
                model.loss(weights, n, c, k, which));
        same(call("patience", weights, n, c), bus.patience(weights, n, c), model.patience(weights, n, c));
    }

    private static void askHelpers() {
        int days = chance(60) ? 31 & ~(1 << pick(6)) : arg(0, 31), x = arg(0, 4), need = arg(0, 3), k = arg(-1, 4);
        if (model.many(4) < 5 || chance(20)) {
            for (int more = pick(4); more >= 0; more--) {
                int other = chance(60) ? 31 & ~(1 << pick(6)) : arg(0, 31);
                same(call("helper", other), bus.helper(other), model.helper(other));
            }
        } else if (chance(20)) {
            same(call("helper", days), bus.helper(days), model.helper(days));
        } else {
            same(call("days", x, days), bus.days(x, days), model.days(x, days));
        }
        same(call("week", need, k), bus.week(need, k), model.week(need, k));
        same(call("week", need, -1), bus.week(need, -1), model.week(need, -1));
    }

    private static void askSheets() {
        int k = arg(0, 3), other = arg(0, 3), sort = arg(0, 2), size = chance(20) ? arg(0, 100) : arg(0, 9);
        int i = arg(0, 9), j = arg(0, 9), n = arg(0, 5), v = chance(50) ? pick(Integer.MAX_VALUE) - (1 << 30) : arg(0, 300);
        switch (pick(8)) {
            case 0:
                sheet(k, sort, size);
                break;
            case 1:
                same(call("lose", k), bus.lose(k), model.lose(k));
                break;
            case 2:
                same(call("copy", k, i, other, j, n), bus.copy(k, i, other, j, n), model.copy(k, i, other, j, n));
                break;
            case 3:
                streets(k, sort, i, n);
                break;
            case 4:
                same(call("cell", k, i, sort), bus.cell(k, i, sort), model.cell(k, i, sort));
                break;
            default:
                put(k, i, v);
                same(call("cell", k, i, sort), bus.cell(k, i, sort), model.cell(k, i, sort));
                break;
        }
        fault();
    }

    private static void askParts() {
        int x = kid(), kind = arg(0, 2);
        same(call("tell", x), bus.tell(x), model.tell(x));
        same(call("tag", kind), bus.tag(kind), model.tag(kind));
        same(call("as", x, kind), bus.as(x, kind), model.as(x, kind));
        fault();
        same("trace()", bus.trace(), model.trace());
    }

    private static void run() {
        bus = new WalkingBus();
        model = new Model();
        calls.clear();
        boolean isDense = chance(80);
        if (chance(50)) {
            streets(spoilt(text(isDense)));
        }
        if (!chance(3)) {
            streets(text(isDense));
        }
        int kids = between(0, 11);
        for (int k = 0; k < kids; k++) {
            child();
        }
        for (int k = 0; k < 40 && calls.size() < 500; k++) {
            ask();
        }
    }

    private static void ask() {
        switch (pick(24)) {
            case 0, 1, 2:
                askStreets();
                break;
            case 3, 4, 5:
                askChildren();
                break;
            case 6, 7, 8:
                askLine();
                break;
            case 9, 10:
                askStart();
                break;
            case 11, 12:
                askGrown();
                break;
            case 13:
                if (chance(40)) {
                    askSplit();
                }
                break;
            case 14, 15:
                askRope();
                break;
            case 16, 17:
                askLate();
                break;
            case 18, 19:
                askHelpers();
                break;
            case 20, 21:
                askSheets();
                break;
            case 22:
                askParts();
                break;
            default:
                if (chance(20)) {
                    streets(chance(50) ? text(true) : spoilt(text(true)));
                }
                break;
        }
    }

    public static void main(String[] args) {
        int runs = args.length > 0 ? Integer.parseInt(args[0]) : 2000;
        if (args.length > 1) {
            seed = Long.parseLong(args[1]);
        }
        for (int k = 0; k < runs; k++) {
            run();
        }
        System.out.println(passed + " answers are the model's, " + failed + " are not");
        if (failed != 0) {
            System.exit(1);
        }
    }
}
