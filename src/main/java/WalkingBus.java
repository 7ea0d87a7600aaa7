/**
 * Children gathered on foot by grown ones along streets to a school.
 * What each call must do stands in ../shared/DOC.md, promise by promise.
 *
 * No call makes an object: all rows are made once, by the constructor, and used again.
 */
public final class WalkingBus {
    public static final int UNKNOWN = -1, OUTSIDE = -2, STATE = -3, FULL = -4, NONE = -9;
    public static final long LOST = Long.MIN_VALUE;

    private static final int NULL = 1, CAST = 2, INDEX = 3, SIZE = 4;
    private static final int NO_FAULT = 0;
    private static final int FAULT_BASE = -10, TEXT_BASE = -100;

    private static final int SORTS = 3, BYTES = 0, SHORTS = 1;
    private static final int SHEETS = 4, MOST_CELLS = 100;

    private static final int MOST_CORNERS = 7, MOST_ROADS = 12, MOST_LENGTH = 30;
    private static final int KINDS = 3, SLOW = 1, HELD = 2;
    private static final int MOST_CHILDREN = 10, LEAST_AGE = 4, MOST_AGE = 11, LAST_READY = 60;
    private static final int FRIENDS = 1, QUARREL = 2;

    private static final int LAST_MINUTE = 200, MOST_HUNDREDTHS = 100;
    private static final int MOST_CROSSINGS = 15, MOST_SHUT = 9;
    private static final int START_GATES = 4, START_ORDERS = 24;
    private static final int SPLIT_CHILDREN = 6, SPLIT_SETS = 1 << MOST_CHILDREN;

    private static final int ROPE_CHILDREN = 8;
    private static final int MOST_WEIGHTS = 99999999, MOST_FIGURES = 8, LAST_PATIENCE = 9;
    private static final int MOST_HELPERS = 5, DAYS = 5, ALL_DAYS = 31, MOST_NEED = 3;

    private final Sheet[] sheets = new Sheet[SHEETS];
    private final Reader reader = new Reader();
    private Streets town = new Streets();
    private Streets spareTown = new Streets();
    private final Child[] children = new Child[MOST_CHILDREN];
    private int childCount = 0;
    private final Line line = new Line();
    private final Rope rope = new Rope();
    private int hold = 6;
    private final int[] helperDays = new int[MOST_HELPERS];
    private int helperCount = 0;
    private final Week plan = new Week();
    private int traced = 0;
    private int lastFault = NO_FAULT;
    private int splitSet = 0;
    private int splitGrown = 0;
    private int splitStarts = 0;

    public WalkingBus() {
        for (int k = 0; k < SHEETS; k++) {
            sheets[k] = new Sheet();
        }
        for (int x = 0; x < MOST_CHILDREN; x++) {
            children[x] = new Child();
        }
    }

    // ---- 1 streets

    public int streets(int sheet, int sort, int i, int n) {
        lastFault = NO_FAULT;
        if (!isSheet(sheet)) {
            return UNKNOWN;
        }
        if (!isSort(sort)) {
            return OUTSIDE;
        }
        lastFault = sheets[sheet].rowFault(sort, i, n);
        if (lastFault != NO_FAULT) {
            return FAULT_BASE - lastFault;
        }
        int place = reader.read(sheets[sheet], i, n, spareTown);
        if (place != Reader.GOOD) {
            return TEXT_BASE - place;
        }
        moveToSpareTown();
        return town.roads;
    }

    public int ofRoad(int k, int what) {
        if (k < 0 || k >= town.roads) {
            return UNKNOWN;
        }
        switch (what) {
            case 0:
                return town.from[k];
            case 1:
                return town.to[k];
            case 2:
                return town.length[k];
            case 3:
                return town.odds[k];
            case 4:
                return town.shut[k];
            default:
                return OUTSIDE;
        }
    }

    public int way(int a, int b, int what) {
        if (!isCorner(a) || !isCorner(b)) {
            return UNKNOWN;
        }
        if (!isWithin(what, 0, 2)) {
            return OUTSIDE;
        }
        if (!town.hasWay(a, b)) {
            return NONE;
        }
        if (what == 0) {
            return town.lengthOfWay(a, b);
        }
        return what == 1 ? town.crossingsOfWay(a, b) : town.roadsOfWay(a, b);
    }

    public int along(int a, int b, int k) {
        if (!isCorner(a) || !isCorner(b)) {
            return UNKNOWN;
        }
        if (k < 0) {
            return OUTSIDE;
        }
        return town.roadOfWay(a, b, k);
    }

    // ---- 2 children

    public int child(int kind, int corner, int age, int ready) {
        if (!isCorner(corner)) {
            return UNKNOWN;
        }
        if (!isKind(kind) || !isAge(age) || !isWithin(ready, 0, LAST_READY)) {
            return OUTSIDE;
        }
        if (childCount >= MOST_CHILDREN) {
            return FULL;
        }
        children[childCount].become(kind, corner, age, ready);
        childCount++;
        return childCount - 1;
    }

    public int ofChild(int x, int what) {
        if (!isChild(x)) {
            return UNKNOWN;
        }
        Child c = children[x];
        switch (what) {
            case 0:
                return c.kind;
            case 1:
                return c.corner;
            case 2:
                return c.age;
            case 3:
                return c.readyAt;
            case 4:
                return c.pace();
            case 5:
                return c.heads();
            case 6:
                return c.friends;
            case 7:
                return c.quarrels;
            default:
                return OUTSIDE;
        }
    }

    public int ready(int x, int v) {
        if (!isChild(x)) {
            return UNKNOWN;
        }
        if (!isWithin(v, 0, LAST_READY)) {
            return OUTSIDE;
        }
        int was = children[x].readyAt;
        children[x].readyAt = v;
        return was;
    }

    public int tie(int x, int y, int v) {
        if (!isChild(x) || !isChild(y)) {
            return UNKNOWN;
        }
        if (x == y || !isWithin(v, 0, QUARREL)) {
            return OUTSIDE;
        }
        int was = children[x].bondWith(y);
        children[x].bind(y, v);
        children[y].bind(x, v);
        return was;
    }

    // ---- 3 lines

    public long late(int set, int corner, int m, int bell, int sheet, int sort, int i, int n, int which) {
        lastFault = NO_FAULT;
        if (!isSheet(sheet) || !isCorner(corner) || !isSort(sort)) {
            return LOST;
        }
        if (!isSet(set) || !isMinute(m) || !isMinute(bell) || !isWithin(which, 0, 1)) {
            return LOST;
        }
        lastFault = sheets[sheet].rowFault(sort, i, n);
        if (lastFault != NO_FAULT || !hasWalked(set, corner, m, sheets[sheet], i, n)) {
            return LOST;
        }
        return partOfShare(line.minutes.casesBehind(bell), line.minutes.cases, which);
    }

    public long mean(int set, int corner, int m, int sheet, int sort, int i, int n, int which) {
        lastFault = NO_FAULT;
        if (!isSheet(sheet) || !isCorner(corner) || !isSort(sort)) {
            return LOST;
        }
        if (!isSet(set) || !isMinute(m) || !isWithin(which, 0, 1)) {
            return LOST;
        }
        lastFault = sheets[sheet].rowFault(sort, i, n);
        if (lastFault != NO_FAULT || !hasWalked(set, corner, m, sheets[sheet], i, n)) {
            return LOST;
        }
        return partOfShare(line.minutes.sumOverCases(), line.minutes.cases, which);
    }

    public int start(int set, int corner, int bell, int h) {
        int refusal = startRefusal(set, corner, bell, h);
        if (refusal != 0) {
            return refusal;
        }
        return line.findStart(town, corner, bell, h);
    }

    public int gate(int set, int corner, int bell, int h, int k) {
        if (!isCorner(corner) || !isWithin(k, 0, START_GATES - 1)) {
            return UNKNOWN;
        }
        int refusal = startRefusal(set, corner, bell, h);
        if (refusal != 0) {
            return refusal;
        }
        if (line.findStart(town, corner, bell, h) == NONE || k >= line.gates.count) {
            return NONE;
        }
        return line.bestOrder[k];
    }

    // ---- 4 grown ones, two lines

    public int holds(int v) {
        if (!isWithin(v, 1, 9)) {
            return OUTSIDE;
        }
        int was = hold;
        hold = v;
        return was;
    }

    public int grown(int set) {
        return isSet(set) ? grownFor(set) : OUTSIDE;
    }

    public int split(int set, int corner, int bell, int h, int what) {
        if (!isCorner(corner)) {
            return UNKNOWN;
        }
        if (!isSet(set) || !isWithin(Integer.bitCount(set), 2, SPLIT_CHILDREN) || !isWithin(what, 0, 3)) {
            return OUTSIDE;
        }
        int refusal = startRefusal(set, corner, bell, h);
        if (refusal != 0) {
            return refusal;
        }
        if (!findSplit(set, corner, bell, h)) {
            return NONE;
        }
        switch (what) {
            case 0:
                return splitSet;
            case 1:
                return splitGrown;
            case 2:
                return splitStarts;
            default:
                return splitGrown - grownFor(set);
        }
    }

    // ---- 5 ropes

    public long ways(int set, int r) {
        if (!isRopeFor(set, r)) {
            return LOST;
        }
        rope.search(children, set, r, true);
        return rope.found;
    }

    public int friendly(int set, int r, int k) {
        if (!isRopeFor(set, r)) {
            return OUTSIDE;
        }
        if (!isWithin(k, -1, ROPE_CHILDREN - 1)) {
            return UNKNOWN;
        }
        rope.search(children, set, r, false);
        if (rope.mostFriends < 0) {
            return NONE;
        }
        if (k == -1) {
            return rope.mostFriends;
        }
        return k < rope.loops ? rope.bestLoops[k] : NONE;
    }

    // ---- 6 one that is late

    public long loss(int weights, int n, int c, int k, int which) {
        if (!isWait(weights, n, c) || !isWithin(k, 0, LAST_PATIENCE) || !isWithin(which, 0, 1)) {
            return LOST;
        }
        return partOfShare(lossSum(weights, n, c, k), weightSum(weights), which);
    }

    public int patience(int weights, int n, int c) {
        if (!isWait(weights, n, c)) {
            return OUTSIDE;
        }
        int best = 0;
        long least = lossSum(weights, n, c, 0);
        for (int k = 1; k <= LAST_PATIENCE; k++) {
            long sum = lossSum(weights, n, c, k);
            if (sum < least) {
                least = sum;
                best = k;
            }
        }
        return best;
    }

    // ---- 7 helpers

    public int helper(int days) {
        if (!isWithin(days, 0, ALL_DAYS)) {
            return OUTSIDE;
        }
        if (helperCount >= MOST_HELPERS) {
            return FULL;
        }
        helperDays[helperCount] = days;
        helperCount++;
        return helperCount - 1;
    }

    public int days(int x, int days) {
        if (x < 0 || x >= helperCount) {
            return UNKNOWN;
        }
        if (!isWithin(days, 0, ALL_DAYS)) {
            return OUTSIDE;
        }
        int was = helperDays[x];
        helperDays[x] = days;
        return was;
    }

    public int week(int need, int k) {
        if (!isWithin(need, 0, MOST_NEED)) {
            return OUTSIDE;
        }
        if (!isWithin(k, -1, DAYS - 1)) {
            return UNKNOWN;
        }
        plan.make(helperDays, helperCount, need);
        if (plan.mostDays == NONE) {
            return NONE;
        }
        return k == -1 ? plan.mostDays : plan.sets[k];
    }

    // ---- 8 sheets, parts

    public int sheet(int k, int sort, int n) {
        lastFault = NO_FAULT;
        if (!isSheet(k)) {
            return UNKNOWN;
        }
        if (!isSort(sort) || n > MOST_CELLS) {
            return OUTSIDE;
        }
        if (n < 0) {
            return fail(SIZE);
        }
        sheets[k].begin(sort, n);
        return 1;
    }

    public int lose(int k) {
        if (!isSheet(k)) {
            return UNKNOWN;
        }
        int had = sheets[k].isThere ? 1 : 0;
        sheets[k].isThere = false;
        return had;
    }

    public int put(int k, int i, int v) {
        lastFault = NO_FAULT;
        if (!isSheet(k)) {
            return UNKNOWN;
        }
        if (!sheets[k].isThere) {
            return fail(NULL);
        }
        if (!sheets[k].reaches(i, 1)) {
            return fail(INDEX);
        }
        sheets[k].change(i, v);
        return 1;
    }

    public long cell(int k, int i, int sort) {
        lastFault = NO_FAULT;
        if (!isSheet(k) || !isSort(sort)) {
            return LOST;
        }
        lastFault = sheets[k].rowFault(sort, i, 1);
        return lastFault == NO_FAULT ? sheets[k].at(i) : LOST;
    }

    public int copy(int k, int i, int other, int j, int n) {
        lastFault = NO_FAULT;
        if (!isSheet(k) || !isSheet(other)) {
            return UNKNOWN;
        }
        Sheet source = sheets[k];
        Sheet target = sheets[other];
        if (!source.isThere || !target.isThere) {
            return fail(NULL);
        }
        if (source.sort != target.sort) {
            return fail(CAST);
        }
        if (!source.reaches(i, n) || !target.reaches(j, n)) {
            return fail(INDEX);
        }
        System.arraycopy(source.cells, i, target.cells, j, n);
        return n;
    }

    public int tell(int x) {
        if (!isChild(x)) {
            return UNKNOWN;
        }
        Child c = children[x];
        if (c.kind == HELD) {
            return tellHeld(c);
        }
        return c.kind == SLOW ? tellSlow(c) : tellChild(c);
    }

    public int tag(int x) {
        if (!isChild(x)) {
            return UNKNOWN;
        }
        if (children[x].kind == HELD) {
            leaveTrace(5);
            return 60;
        }
        leaveTrace(4);
        return x;
    }

    public int as(int x, int kind) {
        lastFault = NO_FAULT;
        if (!isChild(x)) {
            return UNKNOWN;
        }
        if (!isKind(kind)) {
            return OUTSIDE;
        }
        // Each kind is also all the kinds below it: HELD is a SLOW, SLOW is a CHILD.
        return children[x].kind >= kind ? 1 : fail(CAST);
    }

    public int trace() {
        return traced;
    }

    public int fault() {
        return lastFault;
    }

    public int many(int what) {
        switch (what) {
            case 0:
                return town.corners;
            case 1:
                return town.roads;
            case 2:
                return town.crossings();
            case 3:
                return childCount;
            case 4:
                return helperCount;
            case 5:
                return pairs(FRIENDS);
            case 6:
                return pairs(QUARREL);
            default:
                return OUTSIDE;
        }
    }

    // ---- what is asked of arguments

    private static boolean isWithin(int v, int least, int most) {
        return v >= least && v <= most;
    }

    private static boolean isSheet(int k) {
        return isWithin(k, 0, SHEETS - 1);
    }

    private static boolean isSort(int sort) {
        return isWithin(sort, 0, SORTS - 1);
    }

    private static boolean isKind(int kind) {
        return isWithin(kind, 0, KINDS - 1);
    }

    private static boolean isAge(int age) {
        return isWithin(age, LEAST_AGE, MOST_AGE);
    }

    private static boolean isMinute(int m) {
        return isWithin(m, 0, LAST_MINUTE);
    }

    private boolean isCorner(int corner) {
        return corner >= 0 && corner < town.corners;
    }

    private boolean isChild(int x) {
        return x >= 0 && x < childCount;
    }

    private boolean isSet(int set) {
        return set > 0 && set >> childCount == 0;
    }

    private boolean isRopeFor(int set, int r) {
        return isSet(set) && Integer.bitCount(set) <= ROPE_CHILDREN && isAge(r);
    }

    private static boolean isWait(int weights, int n, int c) {
        return isWithin(weights, 1, MOST_WEIGHTS) && isWithin(n, 1, 9) && isWithin(c, 0, 99);
    }

    private int fail(int fault) {
        lastFault = fault;
        return FAULT_BASE - fault;
    }

    // ---- how the calls are answered

    private void moveToSpareTown() {
        Streets old = town;
        town = spareTown;
        spareTown = old;
        town.findWays();
        childCount = 0;
    }

    private boolean hasWalked(int set, int corner, int m, Sheet sheet, int i, int n) {
        line.gates.gather(children, set);
        if (!line.gates.orderBy(sheet, i, n) || !line.isWalkable(town, corner)) {
            return false;
        }
        line.walk(town, corner, m);
        return true;
    }

    /** Why start() refuses, or 0; then the line's gates are gathered. */
    private int startRefusal(int set, int corner, int bell, int h) {
        if (!isCorner(corner)) {
            return UNKNOWN;
        }
        if (!isSet(set) || !isMinute(bell) || !isWithin(h, 0, MOST_HUNDREDTHS)) {
            return OUTSIDE;
        }
        line.gates.gather(children, set);
        return line.hasStarts(town, corner) ? 0 : STATE;
    }

    private int grownFor(int set) {
        int heads = 0;
        for (int x = 0; x < childCount; x++) {
            if ((set >> x & 1) != 0) {
                heads += children[x].heads();
            }
        }
        return hold > 0 ? (heads + hold - 1) / hold : 0;
    }

    /** Keeps the best split of a set; false: there is none. */
    private boolean findSplit(int set, int corner, int bell, int h) {
        boolean isFound = false;
        int least = set & -set;
        for (int part = least; part < set && part < SPLIT_SETS; part++) {
            if ((part & ~set) != 0 || (part & least) == 0) {
                continue;
            }
            int grown = grownFor(part) + grownFor(set ^ part);
            if (isFound && grown > splitGrown) {
                continue;
            }
            line.gates.gather(children, part);
            int first = line.findStart(town, corner, bell, h);
            line.gates.gather(children, set ^ part);
            int second = line.findStart(town, corner, bell, h);
            if (first == NONE || second == NONE) {
                continue;
            }
            // Parts come in rising order, so of equals the first one stays.
            if (!isFound || grown < splitGrown || first + second > splitStarts) {
                isFound = true;
                splitSet = part;
                splitGrown = grown;
                splitStarts = first + second;
            }
        }
        return isFound;
    }

    private static long partOfShare(long upper, long lower, int which) {
        long common = commonDivisor(upper, lower);
        if (common == 0) {
            return 0;
        }
        return which == 0 ? upper / common : lower / common;
    }

    private static long commonDivisor(long a, long b) {
        long larger = a;
        long smaller = b;
        // Euclid's steps on longs are fewer than a hundred.
        for (int step = 0; step < 1000 && smaller != 0; step++) {
            long rest = larger % smaller;
            larger = smaller;
            smaller = rest;
        }
        return larger;
    }

    private static long weightSum(int weights) {
        long sum = 0;
        int rest = weights;
        for (int late = 0; late < MOST_FIGURES; late++) {
            sum += rest % 10;
            rest /= 10;
        }
        return sum;
    }

    private static long lossSum(int weights, int n, int c, int k) {
        long sum = 0;
        int rest = weights;
        for (int late = 0; late < MOST_FIGURES; late++) {
            int cost = late <= k ? n * late : c + n * k;
            sum += (long) (rest % 10) * cost;
            rest /= 10;
        }
        return sum;
    }

    private void leaveTrace(int body) {
        traced = 31 * traced + body;
    }

    private int tellChild(Child c) {
        leaveTrace(1);
        return c.age;
    }

    private int tellSlow(Child c) {
        leaveTrace(2);
        return tellChild(c) + 100;
    }

    private int tellHeld(Child c) {
        leaveTrace(3);
        int bySlow = tellSlow(c);
        return bySlow + tellChild(c);
    }

    private int pairs(int bond) {
        int ends = 0;
        for (int x = 0; x < childCount; x++) {
            ends += Integer.bitCount(bond == FRIENDS ? children[x].friends : children[x].quarrels);
        }
        return ends / 2;
    }

    /** A row of numbers of one sort, or nothing. */
    private static final class Sheet {
        private boolean isThere = false;
        private int sort = 0;
        private int count = 0;
        private final int[] cells = new int[MOST_CELLS];

        void begin(int newSort, int newCount) {
            isThere = true;
            sort = newSort;
            count = Math.max(0, Math.min(newCount, MOST_CELLS));
            for (int i = 0; i < MOST_CELLS; i++) {
                cells[i] = 0;
            }
        }

        boolean reaches(int i, int n) {
            return i >= 0 && n >= 0 && i <= count - n;
        }

        /** What n cells from i on, taken as a row of a sort, come to. */
        int rowFault(int wanted, int i, int n) {
            if (!isThere) {
                return NULL;
            }
            if (sort != wanted) {
                return CAST;
            }
            if (n < 0) {
                return SIZE;
            }
            return reaches(i, n) ? NO_FAULT : INDEX;
        }

        int at(int i) {
            return reaches(i, 1) ? cells[i] : 0;
        }

        void change(int i, int v) {
            if (!reaches(i, 1)) {
                return;
            }
            if (sort == BYTES) {
                cells[i] = (byte) v;
            } else if (sort == SHORTS) {
                cells[i] = (short) v;
            } else {
                cells[i] = v;
            }
        }
    }

    /** Corners, roads and the school, with the way from each corner to each other one. */
    private static final class Streets {
        // A way's cost is its length, then its crossings; a way has at most six roads, so sixteen parts them.
        private static final int CROSSING_STEP = 16;
        private static final int NO_WAY = 1 << 20;

        private int corners = 0;
        private int roads = 0;
        private int school = 0;
        private final int[] from = new int[MOST_ROADS];
        private final int[] to = new int[MOST_ROADS];
        private final int[] length = new int[MOST_ROADS];
        private final int[] odds = new int[MOST_ROADS];
        private final int[] shut = new int[MOST_ROADS];
        private final int[][] cost = new int[MOST_CORNERS][MOST_CORNERS];
        private final int[][] firstRoad = new int[MOST_CORNERS][MOST_CORNERS];

        void begin(int newCorners) {
            corners = newCorners;
            roads = 0;
            school = 0;
        }

        void addRoad(int a, int b, int itsLength, int itsOdds, int itsShut) {
            if (roads >= MOST_ROADS) {
                return;
            }
            from[roads] = a;
            to[roads] = b;
            length[roads] = itsLength;
            odds[roads] = itsOdds;
            shut[roads] = itsShut;
            roads++;
        }

        int crossings() {
            int count = 0;
            for (int r = 0; r < roads; r++) {
                count += isCrossing(r) ? 1 : 0;
            }
            return count;
        }

        boolean isCrossing(int r) {
            return odds[r] > 0;
        }

        void findWays() {
            setRoadCosts();
            for (int mid = 0; mid < corners; mid++) {
                for (int a = 0; a < corners; a++) {
                    for (int b = 0; b < corners; b++) {
                        cost[a][b] = Math.min(cost[a][b], cost[a][mid] + cost[mid][b]);
                    }
                }
            }
            for (int a = 0; a < corners; a++) {
                for (int b = 0; b < corners; b++) {
                    firstRoad[a][b] = firstRoadOfWay(a, b);
                }
            }
        }

        private void setRoadCosts() {
            for (int a = 0; a < corners; a++) {
                for (int b = 0; b < corners; b++) {
                    cost[a][b] = a == b ? 0 : NO_WAY;
                }
            }
            for (int r = 0; r < roads; r++) {
                int least = Math.min(cost[from[r]][to[r]], roadCost(r));
                cost[from[r]][to[r]] = least;
                cost[to[r]][from[r]] = least;
            }
        }

        private int roadCost(int r) {
            return length[r] * CROSSING_STEP + (isCrossing(r) ? 1 : 0);
        }

        /** The least road by which a way of the least cost begins: so the whole way is the first as a row. */
        private int firstRoadOfWay(int a, int b) {
            if (a == b || !hasWay(a, b)) {
                return NONE;
            }
            for (int r = 0; r < roads; r++) {
                if (from[r] == a || to[r] == a) {
                    if (roadCost(r) + cost[otherEnd(r, a)][b] == cost[a][b]) {
                        return r;
                    }
                }
            }
            return NONE;
        }

        int otherEnd(int r, int a) {
            return from[r] == a ? to[r] : from[r];
        }

        boolean hasWay(int a, int b) {
            return cost[a][b] < NO_WAY;
        }

        int lengthOfWay(int a, int b) {
            return cost[a][b] / CROSSING_STEP;
        }

        int crossingsOfWay(int a, int b) {
            return cost[a][b] % CROSSING_STEP;
        }

        int roadsOfWay(int a, int b) {
            int at = a;
            int count = 0;
            for (int step = 0; step < MOST_CORNERS && firstRoad[at][b] != NONE; step++) {
                at = otherEnd(firstRoad[at][b], at);
                count++;
            }
            return count;
        }

        int roadOfWay(int a, int b, int k) {
            int at = a;
            for (int step = 0; step < MOST_CORNERS && firstRoad[at][b] != NONE; step++) {
                if (step == k) {
                    return firstRoad[at][b];
                }
                at = otherEnd(firstRoad[at][b], at);
            }
            return NONE;
        }
    }

    /** Reads a text code by code; each step answers the place of the first fault, or GOOD. */
    private static final class Reader {
        private static final int GOOD = -1;

        private final int[] codes = new int[MOST_CELLS];
        private int count = 0;
        private int at = 0;

        int read(Sheet sheet, int i, int n, Streets into) {
            count = Math.min(n, MOST_CELLS);
            for (int c = 0; c < count; c++) {
                codes[c] = sheet.at(i + c);
            }
            at = 0;
            if (!take('n') || !isDigit(2, MOST_CORNERS)) {
                return at;
            }
            into.begin(takeDigit());
            return readRoads(into);
        }

        private int readRoads(Streets into) {
            for (int r = 0; r <= MOST_ROADS; r++) {
                if (!take(';')) {
                    return at;
                }
                if (r > 0 && take('s')) {
                    return readSchool(into);
                }
                if (r == MOST_ROADS) {
                    return at;
                }
                int place = readRoad(into);
                if (place != GOOD) {
                    return place;
                }
            }
            return at;
        }

        private int readRoad(Streets into) {
            if (!isDigit(0, into.corners - 1)) {
                return at;
            }
            int a = takeDigit();
            if (!isDigit(0, into.corners - 1) || isDigit(a, a)) {
                return at;
            }
            int b = takeDigit();
            int first = at;
            int length = takeNumber();
            if (!isWithin(length, 1, MOST_LENGTH)) {
                return first;
            }
            if (!take('c')) {
                into.addRoad(a, b, length, 0, 0);
                return GOOD;
            }
            if (!isDigit(1, 9)) {
                return at;
            }
            int odds = takeDigit();
            if (!isDigit(1, MOST_SHUT)) {
                return at;
            }
            into.addRoad(a, b, length, odds, takeDigit());
            return GOOD;
        }

        private int readSchool(Streets into) {
            if (!isDigit(0, into.corners - 1)) {
                return at;
            }
            into.school = takeDigit();
            return at == count ? GOOD : at;
        }

        private boolean take(int code) {
            if (at < count && codes[at] == code) {
                at++;
                return true;
            }
            return false;
        }

        private boolean isDigit(int least, int most) {
            return at < count && isWithin(codes[at], '0' + least, '0' + most);
        }

        private int takeDigit() {
            if (!isDigit(0, 9)) {
                return 0;
            }
            at++;
            return codes[at - 1] - '0';
        }

        /** A number of one or two digits; 0, if there is no digit. */
        private int takeNumber() {
            int value = takeDigit();
            return isDigit(0, 9) ? value * 10 + takeDigit() : value;
        }
    }

    private static final class Child {
        private int kind = 0;
        private int corner = 0;
        private int age = 0;
        private int readyAt = 0;
        private int friends = 0;
        private int quarrels = 0;

        void become(int newKind, int newCorner, int newAge, int newReady) {
            kind = newKind;
            corner = newCorner;
            age = newAge;
            readyAt = newReady;
            friends = 0;
            quarrels = 0;
        }

        int pace() {
            int byAge = age <= 5 ? 3 : age <= 8 ? 2 : 1;
            return kind >= SLOW ? byAge + 1 : byAge;
        }

        int heads() {
            return kind == HELD ? 3 : 1;
        }

        int bondWith(int y) {
            if ((friends >> y & 1) != 0) {
                return FRIENDS;
            }
            return (quarrels >> y & 1) != 0 ? QUARREL : 0;
        }

        void bind(int y, int bond) {
            int bit = 1 << y;
            friends = bond == FRIENDS ? friends | bit : friends & ~bit;
            quarrels = bond == QUARREL ? quarrels | bit : quarrels & ~bit;
        }
    }

    /** The gates of a set of children, in some order. */
    private static final class Gates {
        private int count = 0;
        private final int[] order = new int[MOST_CORNERS];
        private final int[] readyAt = new int[MOST_CORNERS];
        private final int[] pace = new int[MOST_CORNERS];

        /** The gates of a set, in their first order. */
        void gather(Child[] children, int set) {
            for (int corner = 0; corner < MOST_CORNERS; corner++) {
                readyAt[corner] = 0;
                pace[corner] = 0;
            }
            for (int x = 0; x < MOST_CHILDREN; x++) {
                if ((set >> x & 1) != 0) {
                    int corner = children[x].corner;
                    readyAt[corner] = Math.max(readyAt[corner], children[x].readyAt);
                    pace[corner] = Math.max(pace[corner], children[x].pace());
                }
            }
            setFirstOrder();
        }

        void setFirstOrder() {
            count = 0;
            for (int corner = 0; corner < MOST_CORNERS; corner++) {
                if (isGate(corner)) {
                    order[count] = corner;
                    count++;
                }
            }
        }

        /** A child's pace is never 0, so a corner without one is no gate. */
        private boolean isGate(int corner) {
            return corner >= 0 && corner < MOST_CORNERS && pace[corner] > 0;
        }

        /** Takes the order from cells; false: they are not the gates, each once. */
        boolean orderBy(Sheet sheet, int i, int n) {
            if (n != count) {
                return false;
            }
            int seen = 0;
            for (int k = 0; k < count; k++) {
                int corner = sheet.at(i + k);
                if (!isGate(corner) || (seen >> corner & 1) != 0) {
                    return false;
                }
                seen |= 1 << corner;
                order[k] = corner;
            }
            return true;
        }

        /** The next order as a row of corners; false: this was the last one. */
        boolean toNextOrder() {
            int drop = count - 2;
            for (; drop >= 0; drop--) {
                if (order[drop] < order[drop + 1]) {
                    break;
                }
            }
            if (drop < 0) {
                return false;
            }
            for (int k = count - 1; k > drop; k--) {
                if (order[k] > order[drop]) {
                    swap(k, drop);
                    break;
                }
            }
            for (int low = drop + 1, high = count - 1; low < high; low++, high--) {
                swap(low, high);
            }
            return true;
        }

        private void swap(int k, int other) {
            int kept = order[k];
            order[k] = order[other];
            order[other] = kept;
        }
    }

    /** At which minute a line is somewhere: how many of all cases of its crossings, by minutes behind the earliest. */
    private static final class Minutes {
        private static final int MOST_SPREAD = MOST_CROSSINGS * MOST_SHUT;

        private final long[] casesAt = new long[MOST_SPREAD + 1];
        private int earliest = 0;
        private int spread = 0;
        private long cases = 1;

        void begin(int m) {
            for (int d = 0; d <= spread; d++) {
                casesAt[d] = 0;
            }
            casesAt[0] = 1;
            cases = 1;
            earliest = m;
            spread = 0;
        }

        void pass(int minutes) {
            earliest += minutes;
        }

        void cross(int odds, int shut) {
            if (shut < 0 || spread + shut > MOST_SPREAD) {
                return;
            }
            // From the far end on, so that no case is delayed twice.
            for (int d = spread; d >= 0; d--) {
                long here = casesAt[d];
                casesAt[d] = here * (10 - odds);
                casesAt[d + shut] += here * odds;
            }
            spread += shut;
            cases *= 10;
        }

        void waitUntil(int minute) {
            int gap = minute - earliest;
            if (gap <= 0) {
                return;
            }
            long there = 0;
            for (int d = 0; d <= spread && d <= gap; d++) {
                there += casesAt[d];
            }
            casesAt[0] = there;
            for (int d = 1; d <= spread; d++) {
                casesAt[d] = d <= spread - gap ? casesAt[d + gap] : 0;
            }
            spread = Math.max(0, spread - gap);
            earliest = minute;
        }

        long casesBehind(int minute) {
            long behind = 0;
            for (int d = 0; d <= spread; d++) {
                behind += earliest + d > minute ? casesAt[d] : 0;
            }
            return behind;
        }

        long sumOverCases() {
            long sum = 0;
            for (int d = 0; d <= spread; d++) {
                sum += casesAt[d] * (earliest + d);
            }
            return sum;
        }
    }

    /** A line by its gates: when it is at the school, and when it may start. */
    private static final class Line {
        private final Gates gates = new Gates();
        private final Minutes minutes = new Minutes();
        private final int[] bestOrder = new int[START_GATES];

        /** All ways of the gates' order are there, with not too many crossings. */
        boolean isWalkable(Streets town, int corner) {
            int crossings = 0;
            int at = corner;
            for (int k = 0; k <= gates.count; k++) {
                int next = stop(town, k);
                if (!town.hasWay(at, next)) {
                    return false;
                }
                crossings += town.crossingsOfWay(at, next);
                at = next;
            }
            return crossings <= MOST_CROSSINGS;
        }

        private int stop(Streets town, int k) {
            return k < gates.count ? gates.order[k] : town.school;
        }

        void walk(Streets town, int corner, int m) {
            int pace = 1;
            minutes.begin(m);
            int at = corner;
            for (int k = 0; k <= gates.count; k++) {
                int next = stop(town, k);
                walkWay(town, at, next, pace);
                at = next;
                if (k < gates.count) {
                    minutes.waitUntil(gates.readyAt[next]);
                    // Without children the pace is 1, with some it is theirs: never less than 1.
                    pace = Math.max(pace, gates.pace[next]);
                }
            }
        }

        private void walkWay(Streets town, int a, int b, int pace) {
            int at = a;
            for (int step = 0; step < MOST_CORNERS && town.firstRoad[at][b] != NONE; step++) {
                int r = town.firstRoad[at][b];
                minutes.pass(town.length[r] * pace);
                if (town.isCrossing(r)) {
                    minutes.cross(town.odds[r], town.shut[r]);
                }
                at = town.otherEnd(r, at);
            }
        }

        /** Whether starts are asked of these gates at all: few enough, all orders walkable. */
        boolean hasStarts(Streets town, int corner) {
            if (gates.count > START_GATES) {
                return false;
            }
            gates.setFirstOrder();
            for (int k = 0; k < START_ORDERS; k++) {
                if (!isWalkable(town, corner)) {
                    return false;
                }
                if (!gates.toNextOrder()) {
                    break;
                }
            }
            return true;
        }

        /** The latest start by all orders, or NONE; its order is kept in bestOrder. */
        int findStart(Streets town, int corner, int bell, int h) {
            if (!hasStarts(town, corner)) {
                return NONE;
            }
            int best = -1;
            gates.setFirstOrder();
            for (int k = 0; k < START_ORDERS && best < bell; k++) {
                int m = latestStart(town, corner, bell, h, best);
                if (m > best) {
                    best = m;
                    keepOrder();
                }
                if (!gates.toNextOrder()) {
                    break;
                }
            }
            return best < 0 ? NONE : best;
        }

        private void keepOrder() {
            for (int k = 0; k < START_GATES; k++) {
                bestOrder[k] = k < gates.count ? gates.order[k] : NONE;
            }
        }

        /** The latest start above a minute by this order, or that minute: who starts later is never earlier there. */
        private int latestStart(Streets town, int corner, int bell, int h, int floor) {
            int good = floor;
            int bad = bell + 1;
            for (int step = 0; step < LAST_MINUTE && bad - good > 1; step++) {
                // Most orders do no better than the floor: that is asked first.
                int m = step == 0 ? good + 1 : (good + bad) / 2;
                walk(town, corner, m);
                if (minutes.casesBehind(bell) * 100 <= minutes.cases * h) {
                    good = m;
                } else {
                    bad = m;
                }
            }
            return good;
        }
    }

    /** Places on a rope: loops row by row, the road's first, so the even ones are by the road. */
    private static final class Rope {
        private final int[] friends = new int[MOST_CHILDREN];
        private final int[] quarrels = new int[MOST_CHILDREN];
        private final int[] loopOf = new int[ROPE_CHILDREN];
        private final int[] bestLoops = new int[ROPE_CHILDREN];
        private boolean isCounting = false;
        private int loops = 0;
        private int emptyLoop = NONE;
        private int oldEnough = 0;
        private int withFriends = 0;
        private int found = 0;
        private int mostFriends = NONE;

        /** Counts all ways; or finds the friendliest one, passing over what can't be friendlier. */
        void search(Child[] children, int set, int r, boolean counting) {
            isCounting = counting;
            found = 0;
            mostFriends = -1;
            oldEnough = 0;
            withFriends = 0;
            for (int x = 0; x < MOST_CHILDREN; x++) {
                friends[x] = children[x].friends & set;
                quarrels[x] = children[x].quarrels & set;
                oldEnough |= children[x].age >= r ? 1 << x : 0;
                withFriends |= friends[x] != 0 ? 1 << x : 0;
            }
            int size = Math.min(Integer.bitCount(set), ROPE_CHILDREN);
            loops = (size + 1) / 2 * 2;
            emptyLoop = size < loops ? loops - 2 : NONE;
            fill(this, 0, set, 0);
        }

        private static void fill(Rope rope, int loop, int left, int friendRows) {
            if (loop >= rope.loops) {
                rope.take(friendRows);
                return;
            }
            if (!rope.isCounting && friendRows + rope.hope(loop, left) <= rope.mostFriends) {
                return;
            }
            if (loop == rope.emptyLoop) {
                rope.loopOf[loop] = NONE;
                fill(rope, loop + 1, left, friendRows);
                return;
            }
            int open = rope.mayCome(loop, left);
            if (rope.isCounting && loop == rope.loops - 1) {
                // Only one is left for the last loop, so it need not be tried.
                rope.found += Integer.bitCount(open);
                return;
            }
            for (int x = 0; x < MOST_CHILDREN; x++) {
                if ((open >> x & 1) != 0) {
                    rope.loopOf[loop] = x;
                    int more = isBeside(loop) ? rope.friends[x] & rope.bitAt(loop - 1) : 0;
                    fill(rope, loop + 1, left & ~(1 << x), friendRows + Integer.bitCount(more));
                }
            }
        }

        private void take(int friendRows) {
            if (friendRows > mostFriends) {
                mostFriends = friendRows;
                for (int k = 0; k < loops; k++) {
                    bestLoops[k] = loopOf[k];
                }
            }
        }

        /** No more rows of friends than this can come yet. */
        private int hope(int loop, int left) {
            int open = isBeside(loop) ? left | bitAt(loop - 1) : left;
            return Integer.bitCount(open & withFriends) / 2;
        }

        /** Who of those left may be in a loop: who quarrels with whom is told by both. */
        private int mayCome(int loop, int left) {
            int open = isBeside(loop) ? left & ~quarrelsAt(loop - 1) : left & oldEnough;
            return open & ~quarrelsAt(loop - 2);
        }

        private int quarrelsAt(int loop) {
            return loop >= 0 && loop < loops && loopOf[loop] >= 0 ? quarrels[loopOf[loop]] : 0;
        }

        /** The odd loops are by the houses, each beside the loop before it. */
        private static boolean isBeside(int loop) {
            return loop % 2 == 1;
        }

        private int bitAt(int loop) {
            return loop >= 0 && loop < loops && loopOf[loop] >= 0 ? 1 << loopOf[loop] : 0;
        }
    }

    /** A week of helpers. */
    private static final class Week {
        private final int[] able = new int[DAYS];
        private final int[] daysOf = new int[MOST_HELPERS];
        private final int[] sets = new int[DAYS];
        private int need = 0;
        private int most = 0;
        private int mostDays = NONE;

        void make(int[] helperDays, int helpers, int newNeed) {
            need = newNeed;
            mostDays = NONE;
            for (int x = 0; x < MOST_HELPERS; x++) {
                daysOf[x] = 0;
            }
            if (!isEnough(helperDays, helpers)) {
                return;
            }
            // The sets of a day are tried in rising order, so the first week within the least bound is the first as a row.
            for (most = 0; most <= DAYS; most++) {
                if (fill(this, 0)) {
                    mostDays = most;
                    return;
                }
            }
        }

        private boolean isEnough(int[] helperDays, int helpers) {
            boolean enough = true;
            for (int day = 0; day < DAYS; day++) {
                able[day] = 0;
                for (int x = 0; x < helpers; x++) {
                    able[day] |= (helperDays[x] >> day & 1) << x;
                }
                enough &= Integer.bitCount(able[day]) >= need;
            }
            return enough;
        }

        private static boolean fill(Week week, int day) {
            if (day >= DAYS) {
                return true;
            }
            for (int set = 0; set < 1 << MOST_HELPERS; set++) {
                if (week.mayHelp(set, day)) {
                    week.sets[day] = set;
                    week.addDays(set, 1);
                    if (fill(week, day + 1)) {
                        return true;
                    }
                    week.addDays(set, -1);
                }
            }
            return false;
        }

        private boolean mayHelp(int set, int day) {
            if (Integer.bitCount(set) != need || (set & ~able[day]) != 0) {
                return false;
            }
            for (int x = 0; x < MOST_HELPERS; x++) {
                if ((set >> x & 1) != 0 && daysOf[x] >= most) {
                    return false;
                }
            }
            return true;
        }

        private void addDays(int set, int change) {
            for (int x = 0; x < MOST_HELPERS; x++) {
                daysOf[x] += (set >> x & 1) * change;
            }
        }
    }
}
