/** What the tests that go by the document's sentences share: its names, an object, and words to ask with. */
class Cases {
    static final int NONE = ClassRunner.NONE;
    static final int FULL = ClassRunner.FULL;
    static final int OUTSIDE = ClassRunner.OUTSIDE;
    static final int LEAF = 0, TWICE = 1, THRICE = 2, SHARE = 3, LINKED = 4, THROWS = 5, FIRST = 6, SUM = 7;
    static final int INTS = 0, LONGS = 1, THINGS = 2, LEAVES = 3;
    static final int LOW = Integer.MIN_VALUE, HIGH = Integer.MAX_VALUE;

    static String sentence = "";
    static ClassRunner x = new ClassRunner();

    /** A new object with things of these classes, each with V 0. */
    static void start(String name, int... classes) {
        sentence = name;
        x = new ClassRunner();
        for (int cls : classes) {
            x.thing(cls, 0);
        }
    }

    static void due(String call, long got, long want) {
        Due.due(sentence + ": " + call, got, want);
    }

    static void done(String call, long got, long want) {
        told(call, got, want, 0);
    }

    static void told(String call, long got, long want, int outcome) {
        due(call, got, want);
        due("outcome of " + call, x.outcome(), outcome);
    }

    static void refused(String call, long got, int outcome) {
        told(call, got, 0, outcome);
    }

    static void outside(String call, long got) {
        due(call, got, OUTSIDE);
    }

    /** A row of ints with the items 1, 2, .. */
    static void fill(int t, int n) {
        x.hold(t, INTS, n);
        for (int k = 0; k < n; k++) {
            x.lay(t, k, k + 1);
        }
    }

    static void items(String what, int t, long... want) {
        due(what + ", size", x.size(t), want.length);
        for (int k = 0; k < want.length; k++) {
            due(what + ", item " + k, x.at(t, k), want[k]);
        }
    }

    static void work(String call, int begun, int deep) {
        due("begun by " + call, x.begun(), begun);
        due("deep of " + call, x.deep(), deep);
    }
}
