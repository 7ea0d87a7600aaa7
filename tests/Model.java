import java.math.BigInteger;
import java.util.ArrayList;
import java.util.Collections;
import java.util.List;
import java.util.Map;
import java.util.TreeMap;

/**
 * The document once more, in the slowest and plainest words: all paths, all cases of the crossings,
 * all orders, all seats, all weeks are gone through, and the machine's faults are the machine's own.
 */
final class Model {
    static final int UNKNOWN = -1, OUTSIDE = -2, STATE = -3, FULL = -4, NONE = -9;
    static final long LOST = Long.MIN_VALUE;

    // ---- TELLING as the machine does it

    private final class Trace {
        int value = 0;

        void leave(int body) {
            value = value * 31 + body;
        }
    }

    private interface Tagged {
        int number();

        Trace trace();

        default int tagIt() {
            trace().leave(4);
            return number();
        }
    }

    private static class Kid implements Tagged {
        final Trace trace;
        final int number, corner, age;
        int ready;

        Kid(Trace trace, int number, int corner, int age, int ready) {
            this.trace = trace;
            this.number = number;
            this.corner = corner;
            this.age = age;
            this.ready = ready;
        }

        public int number() {
            return number;
        }

        public Trace trace() {
            return trace;
        }

        final int tellAsKid() {
            trace.leave(1);
            return age;
        }

        int tellIt() {
            return tellAsKid();
        }

        int pace() {
            if (age <= 5) {
                return 3;
            }
            return age <= 8 ? 2 : 1;
        }

        int heads() {
            return 1;
        }

        int kind() {
            return 0;
        }
    }

    private static class SlowKid extends Kid {
        SlowKid(Trace trace, int number, int corner, int age, int ready) {
            super(trace, number, corner, age, ready);
        }

        @Override
        int tellIt() {
            trace.leave(2);
            return super.tellIt() + 100;
        }

        @Override
        int pace() {
            return super.pace() + 1;
        }

        @Override
        int kind() {
            return 1;
        }
    }

    private static final class HeldKid extends SlowKid {
        HeldKid(Trace trace, int number, int corner, int age, int ready) {
            super(trace, number, corner, age, ready);
        }

        @Override
        int tellIt() {
            trace.leave(3);
            return super.tellIt() + tellAsKid();
        }

        @Override
        public int tagIt() {
            trace.leave(5);
            return 60;
        }

        @Override
        int heads() {
            return 3;
        }

        @Override
        int kind() {
            return 2;
        }
    }

    private record Road(int a, int b, int length, int odds, int shut) {
        boolean touches(int c) {
            return a == c || b == c;
        }

        int other(int c) {
            return a == c ? b : a;
        }

        int crossings() {
            return odds > 0 ? 1 : 0;
        }
    }

    private final Object[] sheets = new Object[4];
    private int corners = 0;
    private int school = 0;
    private List<Road> roads = new ArrayList<>();
    private final List<Kid> kids = new ArrayList<>();
    private int[][] ties = new int[10][10];
    private final List<Integer> helpers = new ArrayList<>();
    private int hold = 6;
    private final Trace trace = new Trace();
    private int fault = 0;

    // ---- 8 sheets

    private static Object[] asRow(Object row, int sort) {
        // The cast is the machine's: it throws where the document wants CAST.
        int n;
        if (sort == 0) {
            n = row == null ? 0 : ((byte[]) row).length;
        } else if (sort == 1) {
            n = row == null ? 0 : ((short[]) row).length;
        } else {
            n = row == null ? 0 : ((int[]) row).length;
        }
        if (row == null) {
            throw new NullPointerException();
        }
        Object[] values = new Object[n];
        for (int i = 0; i < n; i++) {
            values[i] = java.lang.reflect.Array.getInt(row, i);
        }
        return values;
    }

    private static int faultOf(RuntimeException e) {
        if (e instanceof NullPointerException) {
            return 1;
        }
        if (e instanceof ClassCastException || e instanceof ArrayStoreException) {
            return 2;
        }
        if (e instanceof IndexOutOfBoundsException) {
            return 3;
        }
        if (e instanceof NegativeArraySizeException) {
            return 4;
        }
        throw e;
    }

    private int[] cut(int sheet, int sort, int i, int n) {
        Object[] values = asRow(sheets[sheet], sort);
        // A huge length is no fault of its own; it goes beyond the cells.
        int[] cut = new int[Math.min(n, 1000)];
        if (i < 0 || i > values.length || n > values.length - i) {
            throw new ArrayIndexOutOfBoundsException();
        }
        for (int k = 0; k < n; k++) {
            cut[k] = (Integer) values[i + k];
        }
        return cut;
    }

    int sheet(int k, int sort, int n) {
        fault = 0;
        if (k < 0 || k > 3) {
            return UNKNOWN;
        }
        if (sort < 0 || sort > 2 || n > 100) {
            return OUTSIDE;
        }
        try {
            sheets[k] = sort == 0 ? new byte[n] : sort == 1 ? new short[n] : (Object) new int[n];
            return 1;
        } catch (RuntimeException e) {
            fault = faultOf(e);
            return -10 - fault;
        }
    }

    int lose(int k) {
        if (k < 0 || k > 3) {
            return UNKNOWN;
        }
        int had = sheets[k] == null ? 0 : 1;
        sheets[k] = null;
        return had;
    }

    int put(int k, int i, int v) {
        fault = 0;
        if (k < 0 || k > 3) {
            return UNKNOWN;
        }
        try {
            if (sheets[k] instanceof byte[] bytes) {
                bytes[i] = (byte) v;
            } else if (sheets[k] instanceof short[] shorts) {
                shorts[i] = (short) v;
            } else {
                ((int[]) sheets[k])[i] = v;
            }
            return 1;
        } catch (RuntimeException e) {
            fault = faultOf(e);
            return -10 - fault;
        }
    }

    long cell(int k, int i, int sort) {
        fault = 0;
        if (k < 0 || k > 3 || sort < 0 || sort > 2) {
            return LOST;
        }
        try {
            return (Integer) asRow(sheets[k], sort)[i];
        } catch (RuntimeException e) {
            fault = faultOf(e);
            return LOST;
        }
    }

    int copy(int k, int i, int other, int j, int n) {
        fault = 0;
        if (k < 0 || k > 3 || other < 0 || other > 3) {
            return UNKNOWN;
        }
        try {
            System.arraycopy(sheets[k], i, sheets[other], j, n);
            return n;
        } catch (RuntimeException e) {
            fault = faultOf(e);
            return -10 - fault;
        }
    }

    int fault() {
        return fault;
    }

    // ---- 1 streets

    int streets(int sheet, int sort, int i, int n) {
        fault = 0;
        if (sheet < 0 || sheet > 3) {
            return UNKNOWN;
        }
        if (sort < 0 || sort > 2) {
            return OUTSIDE;
        }
        int[] text;
        try {
            text = cut(sheet, sort, i, n);
        } catch (RuntimeException e) {
            fault = faultOf(e);
            return -10 - fault;
        }
        int place = firstFault(text);
        if (place >= 0) {
            return -100 - place;
        }
        kids.clear();
        ties = new int[10][10];
        return roads.size();
    }

    /** A table of states, walked code by code; only a text without a fault is kept. */
    private int firstFault(int[] text) {
        List<Road> read = new ArrayList<>();
        int n = 0, a = 0, b = 0, length = 0, odds = 0, end = 0, numberAt = 0;
        String state = "n";
        for (int at = 0; at <= text.length; at++) {
            int code = at < text.length ? text[at] : -1;
            int digit = code >= 48 && code <= 57 ? code - 48 : -1;
            // A number is looked at when it ends, be it by the text's end.
            if (state.equals("second")) {
                if (digit >= 0) {
                    length = length * 10 + digit;
                }
                if (length < 1 || length > 30) {
                    return numberAt;
                }
                state = "tail";
                if (digit >= 0) {
                    continue;
                }
            }
            if (at == text.length) {
                break;
            }
            boolean good;
            switch (state) {
                case "n":
                    good = code == 110;
                    state = "corners";
                    break;
                case "corners":
                    good = digit >= 2 && digit <= 7;
                    n = digit;
                    state = "first;";
                    break;
                case "first;":
                    good = code == 59;
                    state = "a";
                    break;
                case "a":
                    good = digit >= 0 && digit < n;
                    a = digit;
                    state = "b";
                    break;
                case "b":
                    good = digit >= 0 && digit < n && digit != a;
                    b = digit;
                    state = "length";
                    break;
                case "length":
                    good = digit >= 0;
                    length = digit;
                    numberAt = at;
                    state = "second";
                    break;
                case "tail":
                    good = code == 99 || code == 59;
                    if (code == 59) {
                        read.add(new Road(a, b, length, 0, 0));
                    }
                    state = code == 99 ? "odds" : "next";
                    break;
                case "odds":
                    good = digit >= 1;
                    odds = digit;
                    state = "shut";
                    break;
                case "shut":
                    good = digit >= 1;
                    read.add(new Road(a, b, length, odds, digit));
                    state = ";";
                    break;
                case ";":
                    good = code == 59;
                    state = "next";
                    break;
                case "next":
                    good = code == 115 || digit >= 0 && digit < n && read.size() < 12;
                    a = digit;
                    state = code == 115 ? "school" : "b";
                    break;
                case "school":
                    good = digit >= 0 && digit < n;
                    end = digit;
                    state = "done";
                    break;
                default:
                    good = false;
                    break;
            }
            if (!good) {
                return at;
            }
        }
        if (!state.equals("done")) {
            return text.length;
        }
        corners = n;
        school = end;
        roads = read;
        return -1;
    }

    int ofRoad(int k, int what) {
        if (k < 0 || k >= roads.size()) {
            return UNKNOWN;
        }
        Road r = roads.get(k);
        int[] parts = {r.a, r.b, r.length, r.odds, r.shut};
        return what < 0 || what > 4 ? OUTSIDE : parts[what];
    }

    private boolean isCorner(int c) {
        return c >= 0 && c < corners;
    }

    /** THE WAY as a row of roads, by all paths; null, if there is none. */
    private List<Integer> theWay(int a, int b) {
        List<List<Integer>> all = new ArrayList<>();
        allPaths(a, b, 1 << a, new ArrayList<>(), all);
        List<Integer> best = null;
        for (List<Integer> path : all) {
            if (best == null || isBefore(path, best)) {
                best = path;
            }
        }
        return best;
    }

    private void allPaths(int at, int b, int seen, List<Integer> path, List<List<Integer>> all) {
        if (at == b) {
            all.add(new ArrayList<>(path));
            return;
        }
        for (int k = 0; k < roads.size(); k++) {
            Road r = roads.get(k);
            if (r.touches(at) && (seen >> r.other(at) & 1) == 0) {
                path.add(k);
                allPaths(r.other(at), b, seen | 1 << r.other(at), path, all);
                path.remove(path.size() - 1);
            }
        }
    }

    private int lengthOf(List<Integer> path) {
        int sum = 0;
        for (int k : path) {
            sum += roads.get(k).length;
        }
        return sum;
    }

    private int crossingsOf(List<Integer> path) {
        int sum = 0;
        for (int k : path) {
            sum += roads.get(k).crossings();
        }
        return sum;
    }

    private boolean isBefore(List<Integer> one, List<Integer> other) {
        if (lengthOf(one) != lengthOf(other)) {
            return lengthOf(one) < lengthOf(other);
        }
        if (crossingsOf(one) != crossingsOf(other)) {
            return crossingsOf(one) < crossingsOf(other);
        }
        for (int k = 0; k < Math.min(one.size(), other.size()); k++) {
            if (!one.get(k).equals(other.get(k))) {
                return one.get(k) < other.get(k);
            }
        }
        return one.size() < other.size();
    }

    int way(int a, int b, int what) {
        if (!isCorner(a) || !isCorner(b)) {
            return UNKNOWN;
        }
        if (what < 0 || what > 2) {
            return OUTSIDE;
        }
        List<Integer> way = theWay(a, b);
        if (way == null) {
            return NONE;
        }
        return what == 0 ? lengthOf(way) : what == 1 ? crossingsOf(way) : way.size();
    }

    int along(int a, int b, int k) {
        if (!isCorner(a) || !isCorner(b)) {
            return UNKNOWN;
        }
        if (k < 0) {
            return OUTSIDE;
        }
        List<Integer> way = theWay(a, b);
        return way == null || k >= way.size() ? NONE : way.get(k);
    }

    // ---- 2 children

    int child(int kind, int corner, int age, int ready) {
        if (!isCorner(corner)) {
            return UNKNOWN;
        }
        if (kind < 0 || kind > 2 || age < 4 || age > 11 || ready < 0 || ready > 60) {
            return OUTSIDE;
        }
        if (kids.size() == 10) {
            return FULL;
        }
        int x = kids.size();
        if (kind == 0) {
            kids.add(new Kid(trace, x, corner, age, ready));
        } else if (kind == 1) {
            kids.add(new SlowKid(trace, x, corner, age, ready));
        } else {
            kids.add(new HeldKid(trace, x, corner, age, ready));
        }
        return x;
    }

    private boolean isKid(int x) {
        return x >= 0 && x < kids.size();
    }

    private int tiedBy(int x, int v) {
        int set = 0;
        for (int y = 0; y < 10; y++) {
            if (ties[x][y] == v) {
                set |= 1 << y;
            }
        }
        return set;
    }

    int ofChild(int x, int what) {
        if (!isKid(x)) {
            return UNKNOWN;
        }
        Kid c = kids.get(x);
        int[] parts = {c.kind(), c.corner, c.age, c.ready, c.pace(), c.heads(), tiedBy(x, 1), tiedBy(x, 2)};
        return what < 0 || what > 7 ? OUTSIDE : parts[what];
    }

    int ready(int x, int v) {
        if (!isKid(x)) {
            return UNKNOWN;
        }
        if (v < 0 || v > 60) {
            return OUTSIDE;
        }
        int was = kids.get(x).ready;
        kids.get(x).ready = v;
        return was;
    }

    int tie(int x, int y, int v) {
        if (!isKid(x) || !isKid(y)) {
            return UNKNOWN;
        }
        if (x == y || v < 0 || v > 2) {
            return OUTSIDE;
        }
        int was = ties[x][y];
        ties[x][y] = v;
        ties[y][x] = v;
        return was;
    }

    private boolean isSet(int set) {
        if (set == 0) {
            return false;
        }
        for (int bit = 0; bit < 32; bit++) {
            if ((set >>> bit & 1) != 0 && bit >= kids.size()) {
                return false;
            }
        }
        return true;
    }

    private static List<Integer> bits(int set) {
        List<Integer> list = new ArrayList<>();
        for (int bit = 0; bit < 32; bit++) {
            if ((set >>> bit & 1) != 0) {
                list.add(bit);
            }
        }
        return list;
    }

    // ---- 3 lines

    private List<Integer> gatesOf(int set) {
        List<Integer> gates = new ArrayList<>();
        for (int c = 0; c < corners; c++) {
            for (int x : bits(set)) {
                if (kids.get(x).corner == c && !gates.contains(c)) {
                    gates.add(c);
                }
            }
        }
        return gates;
    }

    /** The ways of a line, leg by leg; null, if one is not there or there are too many crossings. */
    private List<List<Integer>> legs(int corner, List<Integer> order) {
        List<List<Integer>> legs = new ArrayList<>();
        List<Integer> stops = new ArrayList<>(order);
        stops.add(school);
        int at = corner;
        int crossings = 0;
        for (int stop : stops) {
            List<Integer> way = theWay(at, stop);
            if (way == null) {
                return null;
            }
            crossings += crossingsOf(way);
            legs.add(way);
            at = stop;
        }
        return crossings > 15 ? null : legs;
    }

    /** All cases of a line by the minute at which it is at the school. */
    private Map<Integer, Long> arrivals(int set, List<Integer> order, List<List<Integer>> legs, int m) {
        Map<Integer, Long> cases = new TreeMap<>();
        cases.put(m, 1L);
        List<Integer> with = new ArrayList<>();
        for (int leg = 0; leg < legs.size(); leg++) {
            int pace = 1;
            if (!with.isEmpty()) {
                pace = 0;
                for (int x : with) {
                    pace = Math.max(pace, kids.get(x).pace());
                }
            }
            for (int k : legs.get(leg)) {
                cases = gone(cases, roads.get(k), pace);
            }
            if (leg < order.size()) {
                for (int x : bits(set)) {
                    if (kids.get(x).corner == order.get(leg)) {
                        with.add(x);
                        cases = waited(cases, kids.get(x).ready);
                    }
                }
            }
        }
        return cases;
    }

    private static Map<Integer, Long> gone(Map<Integer, Long> cases, Road r, int pace) {
        Map<Integer, Long> next = new TreeMap<>();
        for (Map.Entry<Integer, Long> e : cases.entrySet()) {
            int there = e.getKey() + r.length * pace;
            if (r.odds == 0) {
                next.merge(there, e.getValue(), Long::sum);
            } else {
                next.merge(there, e.getValue() * (10 - r.odds), Long::sum);
                next.merge(there + r.shut, e.getValue() * r.odds, Long::sum);
            }
        }
        return next;
    }

    private static Map<Integer, Long> waited(Map<Integer, Long> cases, int minute) {
        Map<Integer, Long> next = new TreeMap<>();
        for (Map.Entry<Integer, Long> e : cases.entrySet()) {
            next.merge(Math.max(minute, e.getKey()), e.getValue(), Long::sum);
        }
        return next;
    }

    private static BigInteger[] lateShare(Map<Integer, Long> cases, int bell) {
        BigInteger late = BigInteger.ZERO, all = BigInteger.ZERO;
        for (Map.Entry<Integer, Long> e : cases.entrySet()) {
            all = all.add(BigInteger.valueOf(e.getValue()));
            if (e.getKey() > bell) {
                late = late.add(BigInteger.valueOf(e.getValue()));
            }
        }
        return new BigInteger[] {late, all};
    }

    private static long part(BigInteger upper, BigInteger lower, int which) {
        BigInteger common = upper.gcd(lower);
        return (which == 0 ? upper : lower).divide(common).longValueExact();
    }

    /** The arrivals of a told line; null, if it is refused. */
    private Map<Integer, Long> told(int set, int corner, int m, int sheet, int sort, int i, int n) {
        int[] row;
        try {
            row = cut(sheet, sort, i, n);
        } catch (RuntimeException e) {
            fault = faultOf(e);
            return null;
        }
        List<Integer> order = new ArrayList<>();
        for (int v : row) {
            order.add(v);
        }
        List<Integer> sorted = new ArrayList<>(order);
        Collections.sort(sorted);
        if (!sorted.equals(gatesOf(set))) {
            return null;
        }
        List<List<Integer>> legs = legs(corner, order);
        return legs == null ? null : arrivals(set, order, legs, m);
    }

    long late(int set, int corner, int m, int bell, int sheet, int sort, int i, int n, int which) {
        fault = 0;
        if (sheet < 0 || sheet > 3 || !isCorner(corner) || sort < 0 || sort > 2 || !isSet(set) || m < 0 || m > 200
                || bell < 0 || bell > 200 || which < 0 || which > 1) {
            return LOST;
        }
        Map<Integer, Long> cases = told(set, corner, m, sheet, sort, i, n);
        if (cases == null) {
            return LOST;
        }
        BigInteger[] share = lateShare(cases, bell);
        return part(share[0], share[1], which);
    }

    long mean(int set, int corner, int m, int sheet, int sort, int i, int n, int which) {
        fault = 0;
        if (sheet < 0 || sheet > 3 || !isCorner(corner) || sort < 0 || sort > 2 || !isSet(set) || m < 0 || m > 200
                || which < 0 || which > 1) {
            return LOST;
        }
        Map<Integer, Long> cases = told(set, corner, m, sheet, sort, i, n);
        if (cases == null) {
            return LOST;
        }
        BigInteger sum = BigInteger.ZERO;
        for (Map.Entry<Integer, Long> e : cases.entrySet()) {
            sum = sum.add(BigInteger.valueOf(e.getValue()).multiply(BigInteger.valueOf(e.getKey())));
        }
        return part(sum, lateShare(cases, 0)[1], which);
    }

    private static List<List<Integer>> orders(List<Integer> of) {
        List<List<Integer>> all = new ArrayList<>();
        if (of.isEmpty()) {
            all.add(new ArrayList<>());
            return all;
        }
        for (int first : of) {
            List<Integer> rest = new ArrayList<>(of);
            rest.remove(Integer.valueOf(first));
            for (List<Integer> order : orders(rest)) {
                order.add(0, first);
                all.add(order);
            }
        }
        return all;
    }

    private boolean hasStarts(int set, int corner) {
        if (gatesOf(set).size() > 4) {
            return false;
        }
        for (List<Integer> order : orders(gatesOf(set))) {
            if (legs(corner, order) == null) {
                return false;
            }
        }
        return true;
    }

    private List<Integer> bestOrder = null;

    private int bestStart(int set, int corner, int bell, int h) {
        int best = NONE;
        bestOrder = null;
        for (List<Integer> order : orders(gatesOf(set))) {
            List<List<Integer>> legs = legs(corner, order);
            for (int m = bell; m >= 0; m--) {
                BigInteger[] share = lateShare(arrivals(set, order, legs, m), bell);
                boolean good = share[0].multiply(BigInteger.valueOf(100))
                        .compareTo(share[1].multiply(BigInteger.valueOf(h))) <= 0;
                if (good) {
                    if (m > best) {
                        best = m;
                        bestOrder = order;
                    }
                    break;
                }
            }
        }
        return best;
    }

    private int refusal(int set, int corner, int bell, int h) {
        if (!isCorner(corner)) {
            return UNKNOWN;
        }
        if (!isSet(set) || bell < 0 || bell > 200 || h < 0 || h > 100) {
            return OUTSIDE;
        }
        return hasStarts(set, corner) ? 0 : STATE;
    }

    int start(int set, int corner, int bell, int h) {
        int refusal = refusal(set, corner, bell, h);
        return refusal != 0 ? refusal : bestStart(set, corner, bell, h);
    }

    int gate(int set, int corner, int bell, int h, int k) {
        if (!isCorner(corner) || k < 0 || k > 3) {
            return UNKNOWN;
        }
        int refusal = refusal(set, corner, bell, h);
        if (refusal != 0) {
            return refusal;
        }
        bestStart(set, corner, bell, h);
        return bestOrder == null || k >= bestOrder.size() ? NONE : bestOrder.get(k);
    }

    // ---- 4 grown ones, two lines

    int holds(int v) {
        if (v < 1 || v > 9) {
            return OUTSIDE;
        }
        int was = hold;
        hold = v;
        return was;
    }

    int grown(int set) {
        if (!isSet(set)) {
            return OUTSIDE;
        }
        int heads = 0;
        for (int x : bits(set)) {
            heads += kids.get(x).heads();
        }
        return heads / hold + (heads % hold == 0 ? 0 : 1);
    }

    int split(int set, int corner, int bell, int h, int what) {
        if (!isCorner(corner)) {
            return UNKNOWN;
        }
        if (!isSet(set) || bits(set).size() < 2 || bits(set).size() > 6 || bell < 0 || bell > 200 || h < 0 || h > 100
                || what < 0 || what > 3) {
            return OUTSIDE;
        }
        if (!hasStarts(set, corner)) {
            return STATE;
        }
        int[] best = null;
        for (int one = 1; one < 1 << 10; one++) {
            int other = set & ~one;
            if ((one & ~set) != 0 || other == 0 || (one & Integer.lowestOneBit(set)) == 0
                    || !hasStarts(one, corner) || !hasStarts(other, corner)) {
                continue;
            }
            int first = bestStart(one, corner, bell, h);
            int second = bestStart(other, corner, bell, h);
            if (first == NONE || second == NONE) {
                continue;
            }
            int[] key = {grown(one) + grown(other), -(first + second), one};
            if (best == null || java.util.Arrays.compare(key, best) < 0) {
                best = key;
            }
        }
        if (best == null) {
            return NONE;
        }
        int[] parts = {best[2], best[0], -best[1], best[0] - grown(set)};
        return parts[what];
    }

    // ---- 5 ropes

    private List<List<Integer>> ropes(int set, int r) {
        List<List<Integer>> good = new ArrayList<>();
        for (List<Integer> order : orders(bits(set))) {
            List<Integer> loops = new ArrayList<>(order);
            if (loops.size() % 2 == 1) {
                loops.add(loops.size() - 1, NONE);
            }
            if (isRope(loops, r)) {
                good.add(loops);
            }
        }
        return good;
    }

    private boolean isRope(List<Integer> loops, int r) {
        for (int k = 0; k < loops.size(); k++) {
            int x = loops.get(k);
            if (x == NONE) {
                continue;
            }
            if (k % 2 == 0 && kids.get(x).age < r) {
                return false;
            }
            for (int back = 0; back < k; back++) {
                int y = loops.get(back);
                boolean near = back == k - 2 || k % 2 == 1 && back == k - 1;
                if (y != NONE && near && ties[x][y] == 2) {
                    return false;
                }
            }
        }
        return true;
    }

    private int friendRows(List<Integer> loops) {
        int rows = 0;
        for (int k = 0; k < loops.size(); k += 2) {
            int x = loops.get(k);
            int y = loops.get(k + 1);
            if (x != NONE && y != NONE && ties[x][y] == 1) {
                rows++;
            }
        }
        return rows;
    }

    long ways(int set, int r) {
        if (!isSet(set) || bits(set).size() > 8 || r < 4 || r > 11) {
            return LOST;
        }
        return ropes(set, r).size();
    }

    int friendly(int set, int r, int k) {
        if (!isSet(set) || bits(set).size() > 8 || r < 4 || r > 11) {
            return OUTSIDE;
        }
        if (k < -1 || k > 7) {
            return UNKNOWN;
        }
        List<Integer> best = null;
        for (List<Integer> loops : ropes(set, r)) {
            if (best == null || friendRows(loops) > friendRows(best)) {
                best = loops;
            }
        }
        if (best == null) {
            return NONE;
        }
        if (k == -1) {
            return friendRows(best);
        }
        return k < best.size() ? best.get(k) : NONE;
    }

    // ---- 6 one that is late

    private static long[] lossShare(int weights, int n, int c, int k) {
        String figures = new StringBuilder(Integer.toString(weights)).reverse().toString();
        long sum = 0, all = 0;
        for (int late = 0; late < figures.length(); late++) {
            int weight = figures.charAt(late) - '0';
            int cost = 0;
            for (int minute = 1; minute <= k && minute <= late; minute++) {
                cost += n;
            }
            if (late > k) {
                cost += c;
            }
            sum += (long) weight * cost;
            all += weight;
        }
        return new long[] {sum, all};
    }

    long loss(int weights, int n, int c, int k, int which) {
        if (weights < 1 || weights > 99999999 || n < 1 || n > 9 || c < 0 || c > 99 || k < 0 || k > 9 || which < 0
                || which > 1) {
            return LOST;
        }
        long[] share = lossShare(weights, n, c, k);
        return part(BigInteger.valueOf(share[0]), BigInteger.valueOf(share[1]), which);
    }

    int patience(int weights, int n, int c) {
        if (weights < 1 || weights > 99999999 || n < 1 || n > 9 || c < 0 || c > 99) {
            return OUTSIDE;
        }
        int best = 0;
        for (int k = 9; k >= 0; k--) {
            if (lossShare(weights, n, c, k)[0] <= lossShare(weights, n, c, best)[0]) {
                best = k;
            }
        }
        return best;
    }

    // ---- 7 helpers

    int helper(int days) {
        if (days < 0 || days > 31) {
            return OUTSIDE;
        }
        if (helpers.size() == 5) {
            return FULL;
        }
        helpers.add(days);
        return helpers.size() - 1;
    }

    int days(int x, int days) {
        if (x < 0 || x >= helpers.size()) {
            return UNKNOWN;
        }
        if (days < 0 || days > 31) {
            return OUTSIDE;
        }
        return helpers.set(x, days);
    }

    private int[] bestWeek = null;
    private int bestMost = 0;

    private void allWeeks(int need, int day, int[] week) {
        if (day == 5) {
            int most = 0;
            for (int x = 0; x < 5; x++) {
                int load = 0;
                for (int set : week) {
                    load += set >> x & 1;
                }
                most = Math.max(most, load);
            }
            if (bestWeek == null || most < bestMost) {
                bestWeek = week.clone();
                bestMost = most;
            }
            return;
        }
        for (int set = 0; set < 1 << helpers.size(); set++) {
            boolean can = bits(set).size() == need;
            for (int x : bits(set)) {
                can &= (helpers.get(x) >> day & 1) != 0;
            }
            if (can) {
                week[day] = set;
                allWeeks(need, day + 1, week);
            }
        }
    }

    int week(int need, int k) {
        if (need < 0 || need > 3) {
            return OUTSIDE;
        }
        if (k < -1 || k > 4) {
            return UNKNOWN;
        }
        bestWeek = null;
        allWeeks(need, 0, new int[5]);
        if (bestWeek == null) {
            return NONE;
        }
        return k == -1 ? bestMost : bestWeek[k];
    }

    // ---- 8 parts

    int tell(int x) {
        return isKid(x) ? kids.get(x).tellIt() : UNKNOWN;
    }

    int tag(int x) {
        return isKid(x) ? kids.get(x).tagIt() : UNKNOWN;
    }

    int as(int x, int kind) {
        fault = 0;
        if (!isKid(x)) {
            return UNKNOWN;
        }
        if (kind < 0 || kind > 2) {
            return OUTSIDE;
        }
        Object c = kids.get(x);
        try {
            Object taken = kind == 0 ? (Kid) c : kind == 1 ? (SlowKid) c : (HeldKid) c;
            return taken == null ? 0 : 1;
        } catch (ClassCastException e) {
            fault = 2;
            return -12;
        }
    }

    int trace() {
        return trace.value;
    }

    int many(int what) {
        int crossings = 0;
        for (Road r : roads) {
            crossings += r.crossings();
        }
        int friends = 0, quarrels = 0;
        for (int x = 0; x < 10; x++) {
            for (int y = 0; y < x; y++) {
                friends += ties[x][y] == 1 ? 1 : 0;
                quarrels += ties[x][y] == 2 ? 1 : 0;
            }
        }
        int[] parts = {corners, roads.size(), crossings, kids.size(), helpers.size(), friends, quarrels};
        return what < 0 || what > 6 ? OUTSIDE : parts[what];
    }
}
