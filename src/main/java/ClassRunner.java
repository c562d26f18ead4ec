import java.util.Arrays;

/**
 * Things of eight classes, the numbers that they make, and the outcomes that calls tell.
 * No outcome is ever thrown: what stands against a call is found out ahead of it and told.
 */
public final class ClassRunner {
    public static final int NONE = -1, FULL = -2, OUTSIDE = -2000000001;

    private static final int LEAF = 0, TWICE = 1, THRICE = 2, SHARE = 3;
    private static final int LINKED = 4, THROWS = 5, FIRST = 6, SUM = 7;

    private static final int INTS = 0, LONGS = 1, THINGS = 2, LEAVES = 3;

    private static final int DONE = 0, NOTHING = 1, CAST = 2, INDEX = 3, SIZE = 4;
    private static final int STORE = 5, ZERO = 6, OWN = 7, DEEP = 8, SPENT = 9;

    private static final int MOST_THINGS = 40, MOST_ITEMS = 12, MOST_BEGUN = 100, MOST_OPEN = 30;

    private final Store store;
    private final Work work;
    private final int[] told;
    private int outcome;
    private int own;

    public ClassRunner() {
        store = new Store();
        work = new Work(store);
        told = new int[SPENT + 1];
    }

    public int thing(int cls, int v) {
        if (!isClass(cls)) {
            return OUTSIDE;
        }
        return store.add(cls, v);
    }

    public int outcome() {
        return outcome;
    }

    public int own() {
        return own;
    }

    public int begun() {
        return work.begun;
    }

    public int deep() {
        return work.deep;
    }

    public int told(int outcome) {
        if (outcome < DONE || outcome > SPENT) {
            return OUTSIDE;
        }
        return told[outcome];
    }

    public int cls(int t) {
        Thing thing = store.find(t);
        return thing == null ? OUTSIDE : thing.cls;
    }

    public int is(int t, int cls) {
        Thing thing = store.find(t);
        if (thing == null || !isClass(cls)) {
            return OUTSIDE;
        }
        return thing.isOf(cls) ? 1 : 0;
    }

    public int v(int t) {
        Thing thing = store.find(t);
        return thing == null ? OUTSIDE : thing.v;
    }

    public int become(int t, int v) {
        Thing thing = store.find(t);
        if (thing == null) {
            return OUTSIDE;
        }
        int was = thing.v;
        thing.v = v;
        return was;
    }

    public int link(int t, int other) {
        Thing thing = store.find(t);
        if (thing == null || !store.hasOrNone(other)) {
            return OUTSIDE;
        }
        int was = thing.link;
        thing.link = other;
        return was;
    }

    public int linked(int t) {
        Thing thing = store.find(t);
        return thing == null ? OUTSIDE : thing.link;
    }

    public int follow(int t) {
        Thing thing = store.find(t);
        if (thing == null) {
            return OUTSIDE;
        }
        Thing link = store.find(thing.link);
        if (link == null) {
            return refuse(NOTHING);
        }
        tell(DONE);
        thing.link = link.link;
        return thing.link;
    }

    public int trade(int t) {
        Thing thing = store.find(t);
        if (thing == null) {
            return OUTSIDE;
        }
        Thing link = store.find(thing.link);
        if (link == null) {
            return refuse(NOTHING);
        }
        tell(DONE);
        int was = thing.v;
        thing.v = link.v;
        link.v = was;
        return thing.v;
    }

    public int hold(int t, int sort, int n) {
        Thing thing = store.find(t);
        if (thing == null || sort < NONE || sort > LEAVES || n > MOST_ITEMS) {
            return OUTSIDE;
        }
        if (sort == NONE) {
            tell(DONE);
            thing.row = null;
            return 0;
        }
        if (n < 0) {
            return refuse(SIZE);
        }
        tell(DONE);
        thing.row = new Row(sort, n);
        return n;
    }

    public int share(int t, int other) {
        Thing thing = store.find(t);
        Thing holder = store.find(other);
        if (thing == null || holder == null) {
            return OUTSIDE;
        }
        thing.row = holder.row;
        return thing.heldSort();
    }

    public int holds(int t) {
        Thing thing = store.find(t);
        return thing == null ? OUTSIDE : thing.heldSort();
    }

    public int size(int t) {
        Thing thing = store.find(t);
        if (thing == null) {
            return OUTSIDE;
        }
        Row row = thing.row;
        if (row == null) {
            return refuse(NOTHING);
        }
        tell(DONE);
        return row.items.length;
    }

    public long at(int t, int k) {
        Thing thing = store.find(t);
        if (thing == null) {
            return OUTSIDE;
        }
        Row row = thing.row;
        int against = againstItem(row, INTS, LEAVES, k);
        if (against != DONE) {
            return refuse(against);
        }
        tell(DONE);
        return row.items[k];
    }

    public long lay(int t, int k, long v) {
        Thing thing = store.find(t);
        if (thing == null) {
            return OUTSIDE;
        }
        Row row = thing.row;
        int against = againstItem(row, INTS, LONGS, k);
        if (against != DONE) {
            return refuse(against);
        }
        tell(DONE);
        return row.put(k, row.sort == INTS ? (int) v : v);
    }

    public int set(int t, int k, int other) {
        Thing thing = store.find(t);
        if (thing == null || !store.hasOrNone(other)) {
            return OUTSIDE;
        }
        Row row = thing.row;
        int against = againstItem(row, THINGS, LEAVES, k);
        if (against != DONE) {
            return refuse(against);
        }
        if (row.sort == LEAVES && !store.isLeafOrNone(other)) {
            return refuse(STORE);
        }
        tell(DONE);
        return (int) row.put(k, other);
    }

    public int move(int t, int i, int other, int j, int n) {
        Thing giver = store.find(t);
        Thing taker = store.find(other);
        if (giver == null || taker == null) {
            return OUTSIDE;
        }
        Row from = giver.row;
        Row to = taker.row;
        int against = againstMove(from, i, to, j, n);
        if (against != DONE) {
            return refuse(against);
        }
        int going = from.sort == THINGS && to.sort == LEAVES ? leavesAhead(from, i, n) : n;
        System.arraycopy(from.items, i, to.items, j, going);
        if (going < n) {
            return refuse(STORE);
        }
        tell(DONE);
        return n;
    }

    public int run(int t, int limit) {
        Thing thing = store.find(t);
        if (thing == null || !isLimit(limit)) {
            return OUTSIDE;
        }
        int number = work.first(thing, limit);
        return tell(work.outcome) == DONE ? number : 0;
    }

    public int either(int t, int other, int limit) {
        Thing thing = store.find(t);
        Thing second = store.find(other);
        if (thing == null || second == null || !isLimit(limit)) {
            return OUTSIDE;
        }
        int number = work.first(thing, limit);
        if (work.outcome >= NOTHING && work.outcome <= OWN) {
            number = work.next(second);
        }
        return tell(work.outcome) == DONE ? number : 0;
    }

    public int gather(int t, int limit) {
        Thing thing = store.find(t);
        if (thing == null || !isLimit(limit)) {
            return OUTSIDE;
        }
        int number = work.first(store.find(thing.link), limit);
        if (work.outcome != DONE) {
            return refuse(work.outcome);
        }
        tell(DONE);
        thing.v += number;
        return thing.v;
    }

    public int keep(int t, int other, int k, int limit) {
        Thing thing = store.find(t);
        Thing keeper = store.find(other);
        if (thing == null || keeper == null || !isLimit(limit)) {
            return OUTSIDE;
        }
        int number = work.first(thing, limit);
        if (work.outcome != DONE) {
            return refuse(work.outcome);
        }
        Row row = keeper.row;
        int against = againstItem(row, INTS, INTS, k);
        if (against != DONE) {
            return refuse(against);
        }
        tell(DONE);
        row.put(k, number);
        return number;
    }

    public int things() {
        return store.count;
    }

    private int tell(int what) {
        outcome = what;
        told[what]++;
        // Kept only here, so that an OWN that either() passed over is not told.
        if (what == OWN) {
            own = work.thrown;
        }
        return what;
    }

    private int refuse(int why) {
        tell(why);
        return 0;
    }

    private static boolean isClass(int cls) {
        return cls >= LEAF && cls <= SUM;
    }

    private static boolean isLimit(int limit) {
        return limit >= 1 && limit <= MOST_BEGUN;
    }

    /** DONE only if the row is there, of a sort from lowest to highest, and has an item k. */
    private static int againstItem(Row row, int lowest, int highest, int k) {
        if (row == null) {
            return NOTHING;
        }
        if (row.sort < lowest || row.sort > highest) {
            return CAST;
        }
        return row.hasItems(k, 1) ? DONE : INDEX;
    }

    /** What is against a move as a whole; what is against single items shows on the way. */
    private static int againstMove(Row from, int i, Row to, int j, int n) {
        if (from == null || to == null) {
            return NOTHING;
        }
        if (from.sort != to.sort && !(from.isOfThings() && to.isOfThings())) {
            return STORE;
        }
        return from.hasItems(i, n) && to.hasItems(j, n) ? DONE : INDEX;
    }

    /** How many of n items, from i on, stand ahead of the first one that is no leaf. */
    private int leavesAhead(Row row, int i, int n) {
        int count = 0;
        while (count < n && store.isLeafOrNone((int) row.items[i + count])) {
            count++;
        }
        return count;
    }

    private static final class Thing {
        final int cls;
        int v;
        int link;
        Row row;

        Thing(int cls, int v) {
            this.cls = cls;
            this.v = v;
            link = NONE;
        }

        boolean isOf(int wanted) {
            // LEAF, TWICE, THRICE stand each above the next; the others stand alone.
            return cls == wanted || (wanted < cls && cls <= THRICE);
        }

        int heldSort() {
            return row == null ? NONE : row.sort;
        }
    }

    /** Things are kept as their numbers, so that items of every sort are longs. */
    private static final class Row {
        final int sort;
        final long[] items;

        /** The length must have been tested. */
        Row(int sort, int n) {
            this.sort = sort;
            items = new long[n];
            if (sort == THINGS || sort == LEAVES) {
                Arrays.fill(items, NONE);
            }
        }

        boolean isOfThings() {
            return sort == THINGS || sort == LEAVES;
        }

        boolean hasItems(int from, int n) {
            // A sum of from and n could go round; this difference can't.
            return from >= 0 && n >= 0 && from <= items.length - n;
        }

        /** The index must have been tested. */
        long put(int k, long item) {
            long was = items[k];
            items[k] = item;
            return was;
        }
    }

    private static final class Store {
        final Thing[] things;
        int count;

        Store() {
            things = new Thing[MOST_THINGS];
        }

        int add(int cls, int v) {
            if (count >= MOST_THINGS) {
                return FULL;
            }
            things[count] = new Thing(cls, v);
            return count++;
        }

        /** Null for NONE and for what there is not. */
        Thing find(int t) {
            return t >= 0 && t < count ? things[t] : null;
        }

        boolean hasOrNone(int t) {
            return t == NONE || find(t) != null;
        }

        boolean isLeafOrNone(int t) {
            Thing thing = find(t);
            return thing == null || thing.isOf(LEAF);
        }
    }

    /**
     * Numbers begun within numbers for one call. Once something has stopped them, the outcome
     * says so, and what the methods answer on the way out is not to be used.
     */
    private static final class Work {
        final Store store;
        int limit;
        int begun;
        int outcome;
        int deep;
        int thrown;

        Work(Store store) {
            this.store = store;
        }

        int first(Thing thing, int most) {
            limit = most;
            begun = 0;
            return next(thing);
        }

        /** Another number by the same call, with what is left of the limit. */
        int next(Thing thing) {
            outcome = DONE;
            deep = 0;
            return begin(thing, 0);
        }

        private int begin(Thing thing, int open) {
            if (thing == null) {
                return stop(NOTHING, open);
            }
            if (begun >= limit) {
                return stop(SPENT, open);
            }
            if (open >= MOST_OPEN) {
                return stop(DEEP, open);
            }
            begun++;
            return workOut(thing, open + 1);
        }

        private int workOut(Thing thing, int open) {
            switch (thing.cls) {
                case LEAF:
                    return thing.v;
                case TWICE:
                    return 2 * thing.v;
                case THRICE:
                    return 2 * thing.v + thing.v;
                case SHARE:
                    return thing.v == 0 ? stop(ZERO, open) : 1000 / thing.v;
                case LINKED:
                    return begin(store.find(thing.link), open) + 1;
                case THROWS:
                    return throwOwn(thing.v, open);
                case FIRST:
                    return firstOf(thing.row, open);
                default:
                    return sumOf(thing.row, open);
            }
        }

        private int throwOwn(int v, int open) {
            if (v == 0) {
                return stop(NOTHING, open);
            }
            thrown = v;
            return stop(OWN, open);
        }

        private int firstOf(Row row, int open) {
            int against = againstItem(row, INTS, LEAVES, 0);
            if (against != DONE) {
                return stop(against, open);
            }
            int item = (int) row.items[0];
            return row.isOfThings() ? begin(store.find(item), open) : item;
        }

        private int sumOf(Row row, int open) {
            if (row == null) {
                return stop(NOTHING, open);
            }
            if (row.sort != INTS) {
                return stop(CAST, open);
            }
            int sum = 0;
            for (long item : row.items) {
                sum += (int) item;
            }
            return sum;
        }

        private int stop(int why, int open) {
            outcome = why;
            deep = open;
            return 0;
        }
    }
}
