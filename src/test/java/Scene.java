/** A few things of every class, with rows of every sort, so that every refusal has something to spoil. */
final class Scene {
    static final int LEAF = 0, TWICE = 1, THRICE = 2, SHARE = 3, LINKED = 4, THROWS = 5, FIRST = 6, SUM = 7;
    /** Linked to itself. */
    static final int ROUND = 8;
    /** Throws NOTHING. */
    static final int NAUGHT = 9;
    /** LINKED, to THROWS. */
    static final int CHAIN = 10;
    static final int COUNT = 11;
    /** The latest call ahead of the test was a run of CHAIN: OWN of 70, 2 begun, 2 deep. */
    static final int OUTCOME = 7, OWN = 70, BEGUN = 2, DEEP = 2;

    private Scene() {
    }

    static ClassRunner made() {
        ClassRunner x = new ClassRunner();
        int[] classes = {0, 1, 2, 3, 4, 5, 6, 7, 4, 5, 4};
        int[] vs = {5, 6, 7, 0, 9, 70, 11, 12, 13, 0, 14};
        int[] links = {-1, 0, 1, 2, -1, 3, 5, 6, 8, 0, 5};
        for (int t = 0; t < COUNT; t++) {
            x.thing(classes[t], vs[t]);
        }
        for (int t = 0; t < COUNT; t++) {
            x.link(t, links[t]);
        }
        numbers(x, TWICE, 0, 21, 22, 23);
        numbers(x, THRICE, 1, 31, 1L << 40);
        things(x, SHARE, 2, LEAF, SHARE, TWICE);
        things(x, LINKED, 3, TWICE, -1, THRICE);
        x.share(THROWS, TWICE);
        x.hold(FIRST, 0, 0);
        x.share(SUM, THRICE);
        things(x, ROUND, 2, ROUND);
        x.share(NAUGHT, LINKED);
        x.run(CHAIN, 9);
        return x;
    }

    private static void numbers(ClassRunner x, int t, int sort, long... items) {
        x.hold(t, sort, items.length);
        for (int k = 0; k < items.length; k++) {
            x.lay(t, k, items[k]);
        }
    }

    private static void things(ClassRunner x, int t, int sort, int... items) {
        x.hold(t, sort, items.length);
        for (int k = 0; k < items.length; k++) {
            x.set(t, k, items[k]);
        }
    }
}
