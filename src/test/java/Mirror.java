import java.util.ArrayList;
import java.util.List;

/**
 * The document once more, with real classes, arrays and exceptions of the Java machine, so that
 * what the class works out by tests can be held against what the machine itself has to say.
 */
final class Mirror {
    private static final int OUTSIDE = -2000000001;

    private final List<Any> all = new ArrayList<>();
    private final int[] told = new int[10];
    private int outcome, own, begun, deep, limit, open;

    private static final class Own extends RuntimeException {
        private static final long serialVersionUID = 1L;
        final int v;

        Own(int v) {
            this.v = v;
        }
    }

    private static final class Deep extends RuntimeException {
        private static final long serialVersionUID = 1L;
    }

    private static final class Spent extends RuntimeException {
        private static final long serialVersionUID = 1L;
    }

    private abstract class Any {
        int id, cls, v;
        Any link;
        Object row;

        abstract int make();

        /** Open numbers are not counted down when one is thrown out of: open then says how deep. */
        final int number() {
            if (begun == limit) {
                throw new Spent();
            }
            if (open == 30) {
                throw new Deep();
            }
            begun++;
            open++;
            int made = make();
            open--;
            return made;
        }
    }

    private class Leaf extends Any {
        int make() {
            return v;
        }
    }

    private class Twice extends Leaf {
        int make() {
            return 2 * super.make();
        }
    }

    private final class Thrice extends Twice {
        int make() {
            return super.make() + v;
        }
    }

    private final class Share extends Any {
        int make() {
            return 1000 / v;
        }
    }

    private final class Linked extends Any {
        int make() {
            return link.number() + 1;
        }
    }

    private final class Throws extends Any {
        int make() {
            throw v == 0 ? null : new Own(v);
        }
    }

    private final class First extends Any {
        int make() {
            if (row instanceof int[] ints) {
                return ints[0];
            }
            if (row instanceof long[] longs) {
                return (int) longs[0];
            }
            return ((Any[]) row)[0].number();
        }
    }

    private final class Sum extends Any {
        int make() {
            int sum = 0;
            for (int item : (int[]) row) {
                sum += item;
            }
            return sum;
        }
    }

    private interface Call {
        long answer();
    }

    private long tell(Call call) {
        long answer = 0;
        try {
            answer = call.answer();
            outcome = 0;
        } catch (RuntimeException e) {
            outcome = outcomeOf(e);
            if (e instanceof Own thrown) {
                own = thrown.v;
            }
        }
        told[outcome]++;
        return answer;
    }

    private static int outcomeOf(RuntimeException e) {
        Class<?>[] kinds = {NullPointerException.class, ClassCastException.class, IndexOutOfBoundsException.class,
            NegativeArraySizeException.class, ArrayStoreException.class, ArithmeticException.class, Own.class,
            Deep.class, Spent.class};
        for (int i = 0; i < kinds.length; i++) {
            if (kinds[i].isInstance(e)) {
                return i + 1;
            }
        }
        throw e;
    }

    private long tellNumber(int most, Call call) {
        limit = most;
        begun = 0;
        open = 0;
        long answer = tell(call);
        deep = outcome == 0 ? 0 : open;
        return answer;
    }

    private boolean no(int t) {
        return t < 0 || t >= all.size();
    }

    private boolean noLimit(int most) {
        return most < 1 || most > 100;
    }

    private Any get(int t) {
        return t == -1 ? null : all.get(t);
    }

    private static int idOf(Any thing) {
        return thing == null ? -1 : thing.id;
    }

    private static int sortOf(Object row) {
        return row instanceof int[] ? 0 : row instanceof long[] ? 1 : row instanceof Leaf[] ? 3
                : row instanceof Any[] ? 2 : -1;
    }

    int thing(int cls, int v) {
        if (cls < 0 || cls > 7) {
            return OUTSIDE;
        }
        if (all.size() == 40) {
            return -2;
        }
        Any[] kinds = {new Leaf(), new Twice(), new Thrice(), new Share(), new Linked(), new Throws(), new First(),
            new Sum()};
        Any made = kinds[cls];
        made.id = all.size();
        made.cls = cls;
        made.v = v;
        all.add(made);
        return made.id;
    }

    int outcome() {
        return outcome;
    }

    int own() {
        return own;
    }

    int begun() {
        return begun;
    }

    int deep() {
        return deep;
    }

    int told(int which) {
        return which < 0 || which > 9 ? OUTSIDE : told[which];
    }

    int cls(int t) {
        return no(t) ? OUTSIDE : get(t).cls;
    }

    int is(int t, int cls) {
        if (no(t) || cls < 0 || cls > 7) {
            return OUTSIDE;
        }
        Class<?>[] kinds = {Leaf.class, Twice.class, Thrice.class, Share.class, Linked.class, Throws.class,
            First.class, Sum.class};
        return kinds[cls].isInstance(get(t)) ? 1 : 0;
    }

    int v(int t) {
        return no(t) ? OUTSIDE : get(t).v;
    }

    int become(int t, int v) {
        if (no(t)) {
            return OUTSIDE;
        }
        int was = get(t).v;
        get(t).v = v;
        return was;
    }

    int link(int t, int other) {
        if (no(t) || (other != -1 && no(other))) {
            return OUTSIDE;
        }
        int was = idOf(get(t).link);
        get(t).link = get(other);
        return was;
    }

    int linked(int t) {
        return no(t) ? OUTSIDE : idOf(get(t).link);
    }

    int follow(int t) {
        return no(t) ? OUTSIDE : (int) tell(() -> {
            get(t).link = get(t).link.link;
            return idOf(get(t).link);
        });
    }

    int trade(int t) {
        return no(t) ? OUTSIDE : (int) tell(() -> {
            Any thing = get(t);
            int was = thing.v;
            thing.v = thing.link.v;
            thing.link.v = was;
            return thing.v;
        });
    }

    int hold(int t, int sort, int n) {
        if (no(t) || sort < -1 || sort > 3 || n > 12) {
            return OUTSIDE;
        }
        return (int) tell(() -> {
            switch (sort) {
                case -1: get(t).row = null; return 0;
                case 0: get(t).row = new int[n]; return n;
                case 1: get(t).row = new long[n]; return n;
                case 2: get(t).row = new Any[n]; return n;
                default: get(t).row = new Leaf[n]; return n;
            }
        });
    }

    int share(int t, int other) {
        if (no(t) || no(other)) {
            return OUTSIDE;
        }
        get(t).row = get(other).row;
        return sortOf(get(t).row);
    }

    int holds(int t) {
        return no(t) ? OUTSIDE : sortOf(get(t).row);
    }

    int size(int t) {
        return no(t) ? OUTSIDE : (int) tell(() -> java.lang.reflect.Array.getLength(get(t).row));
    }

    long at(int t, int k) {
        return no(t) ? OUTSIDE : tell(() -> {
            Object row = get(t).row;
            return row instanceof int[] ints ? ints[k] : row instanceof long[] longs ? longs[k]
                    : idOf(((Any[]) row)[k]);
        });
    }

    long lay(int t, int k, long v) {
        return no(t) ? OUTSIDE : tell(() -> {
            long was;
            if (get(t).row instanceof long[] longs) {
                was = longs[k];
                longs[k] = v;
            } else {
                int[] ints = (int[]) get(t).row;
                was = ints[k];
                ints[k] = (int) v;
            }
            return was;
        });
    }

    int set(int t, int k, int other) {
        return no(t) || (other != -1 && no(other)) ? OUTSIDE : (int) tell(() -> {
            Any[] things = (Any[]) get(t).row;
            int was = idOf(things[k]);
            things[k] = get(other);
            return was;
        });
    }

    int move(int t, int i, int other, int j, int n) {
        return no(t) || no(other) ? OUTSIDE : (int) tell(() -> {
            System.arraycopy(get(t).row, i, get(other).row, j, n);
            return n;
        });
    }

    int run(int t, int most) {
        return no(t) || noLimit(most) ? OUTSIDE : (int) tellNumber(most, () -> get(t).number());
    }

    int either(int t, int other, int most) {
        return no(t) || no(other) || noLimit(most) ? OUTSIDE : (int) tellNumber(most, () -> {
            try {
                return get(t).number();
            } catch (Deep | Spent e) {
                throw e;
            } catch (RuntimeException e) {
                open = 0;
                return get(other).number();
            }
        });
    }

    int gather(int t, int most) {
        return no(t) || noLimit(most) ? OUTSIDE : (int) tellNumber(most, () -> get(t).v += get(t).link.number());
    }

    int keep(int t, int other, int k, int most) {
        return no(t) || no(other) || noLimit(most) ? OUTSIDE : (int) tellNumber(most, () -> {
            int number = get(t).number();
            ((int[]) get(other).row)[k] = number;
            return number;
        });
    }

    int things() {
        return all.size();
    }
}
