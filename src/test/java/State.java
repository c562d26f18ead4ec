import java.util.Arrays;

/**
 * All that calls can show of an object. Reading rows tells outcomes, and finding out which rows are
 * shared changes items: an object that has been read is of no use afterwards.
 */
final class State {
    int outcome, own, begun, deep;
    final int[] told = new int[10];
    private final String things;

    State(ClassRunner x) {
        outcome = x.outcome();
        own = x.own();
        begun = x.begun();
        deep = x.deep();
        for (int i = 0; i < told.length; i++) {
            told[i] = x.told(i);
        }
        StringBuilder text = new StringBuilder();
        for (int t = 0; t < x.things(); t++) {
            text.append("; ").append(t).append(": class ").append(x.cls(t)).append(" v ").append(x.v(t))
                    .append(" link ").append(x.linked(t)).append(" sort ").append(x.holds(t));
            for (int k = 0; k < x.size(t); k++) {
                text.append(' ').append(x.at(t, k));
            }
        }
        things = text + "; shared" + shared(x);
    }

    /** What is due after a call that told an outcome above 0. */
    State afterOutcome(int what) {
        outcome = what;
        told[what]++;
        return this;
    }

    State afterWork(int begunThen, int deepThen) {
        begun = begunThen;
        deep = deepThen;
        return this;
    }

    void due(String call, State want) {
        if (!toString().equals(want.toString())) {
            System.out.println("is  " + this + "\ndue " + want);
        }
        Due.due("the state after " + call + " is as due:", toString().equals(want.toString()) ? 1 : 0, 1);
    }

    private static String shared(ClassRunner x) {
        StringBuilder text = new StringBuilder();
        for (int t = 0; t < x.things(); t++) {
            if (x.size(t) > 0) {
                text.append(' ').append(t).append(sharers(x, t));
            }
        }
        return text.toString();
    }

    /** The things in whose rows item 0 is another one when that of a thing's row is. */
    private static String sharers(ClassRunner x, int t) {
        long[] before = firsts(x);
        if (x.holds(t) <= 1) {
            x.lay(t, 0, before[t] ^ 1);
        } else {
            x.set(t, 0, before[t] == 0 ? -1 : 0);
        }
        long[] after = firsts(x);
        StringBuilder text = new StringBuilder("(");
        for (int other = 0; other < before.length; other++) {
            text.append(before[other] == after[other] ? '-' : '*');
        }
        return text.append(')').toString();
    }

    private static long[] firsts(ClassRunner x) {
        long[] items = new long[x.things()];
        for (int t = 0; t < items.length; t++) {
            items[t] = x.at(t, 0);
        }
        return items;
    }

    @Override
    public String toString() {
        return "outcome " + outcome + " own " + own + " begun " + begun + " deep " + deep + " told "
                + Arrays.toString(told) + things;
    }
}
