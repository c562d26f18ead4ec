import java.util.Map;
import java.util.Set;
import java.util.TreeMap;
import java.util.TreeSet;

/**
 * "A call with an OUTCOME above 0 answers 0 and changes nothing, but as told." Each call with each
 * outcome that the document names for it, on a new scene; then all that can be read of the scene.
 */
public final class RefusedTest {
    private static final int LEAF = Scene.LEAF, TWICE = Scene.TWICE, THRICE = Scene.THRICE, SHARE = Scene.SHARE,
            LINKED = Scene.LINKED, THROWS = Scene.THROWS, FIRST = Scene.FIRST, SUM = Scene.SUM, ROUND = Scene.ROUND,
            NAUGHT = Scene.NAUGHT, CHAIN = Scene.CHAIN;
    private static final int LOW = Integer.MIN_VALUE, HIGH = Integer.MAX_VALUE;

    private static final Map<String, Set<Integer>> SEEN = new TreeMap<>();

    private interface Call {
        long answer(ClassRunner x);
    }

    public static void main(String[] args) {
        linksAndLengths();
        hold();
        at();
        lay();
        set();
        moveOfNothing();
        moveOfOtherSorts();
        moveBeyond();
        moveOfNoLeaf();
        run();
        either();
        gather();
        keep();
        allSeen();
        Due.end();
    }

    /** A call that begins no number: begun() and deep() stay. */
    private static void no(String name, int outcome, Call call) {
        no(name, outcome, Scene.BEGUN, Scene.DEEP, call);
    }

    private static void no(String name, int outcome, int begun, int deep, Call call) {
        SEEN.computeIfAbsent(name.split("\\W")[0], key -> new TreeSet<>()).add(outcome);
        ClassRunner x = Scene.made();
        Due.due(name, call.answer(x), 0);
        State want = new State(Scene.made()).afterOutcome(outcome).afterWork(begun, deep);
        new State(x).due(name, want);
    }

    private static void linksAndLengths() {
        no("follow", 1, x -> x.follow(LEAF));
        no("follow of one with a row", 1, x -> x.follow(LINKED));
        no("trade", 1, x -> x.trade(LEAF));
        no("trade of one with a row", 1, x -> x.trade(LINKED));
        no("size", 1, x -> x.size(LEAF));
    }

    private static void hold() {
        for (int t : new int[] {LEAF, TWICE, LINKED, FIRST}) {
            for (int sort = 0; sort <= 3; sort++) {
                int of = sort;
                no("hold with -1, sort " + of, 4, x -> x.hold(t, of, -1));
                no("hold with the lowest, sort " + of, 4, x -> x.hold(t, of, LOW));
            }
        }
    }

    private static void at() {
        int[] sizes = {0, 3, 2, 3, 3, 3, 0, 2, 1, 3, 0};
        for (int k : new int[] {LOW, -1, 0, HIGH}) {
            no("at of NOTHING", 1, x -> x.at(LEAF, k));
        }
        for (int t : new int[] {TWICE, THRICE, SHARE, LINKED, FIRST, ROUND}) {
            for (int k : new int[] {LOW, -1, sizes[t], 12, HIGH}) {
                no("at " + t + ", " + k, 3, x -> x.at(t, k));
            }
        }
    }

    private static void lay() {
        for (int k : new int[] {-1, 0, HIGH}) {
            no("lay in NOTHING", 1, x -> x.lay(LEAF, k, 99));
            no("lay in THINGS", 2, x -> x.lay(SHARE, k, 1));
            no("lay in LEAVES", 2, x -> x.lay(LINKED, k, 1));
        }
        for (int k : new int[] {LOW, -1, 3, HIGH}) {
            no("lay in ints, " + k, 3, x -> x.lay(TWICE, k, 99));
            no("lay in longs, " + k, 3, x -> x.lay(THRICE, k == 3 ? 2 : k, 99));
        }
        no("lay in no ints", 3, x -> x.lay(FIRST, 0, 99));
    }

    private static void set() {
        for (int k : new int[] {-1, 0, HIGH}) {
            no("set in NOTHING", 1, x -> x.set(LEAF, k, TWICE));
            no("set in ints", 2, x -> x.set(TWICE, k, LEAF));
            no("set in longs", 2, x -> x.set(THRICE, k, -1));
            no("set in no ints", 2, x -> x.set(FIRST, k, LEAF));
        }
        for (int k : new int[] {LOW, -1, 3, HIGH}) {
            no("set in THINGS, " + k, 3, x -> x.set(SHARE, k, TWICE));
            no("set in LEAVES, " + k, 3, x -> x.set(LINKED, k, LEAF));
            no("set in LEAVES of no LEAF, " + k, 3, x -> x.set(LINKED, k, SHARE));
        }
        for (int other = SHARE; other < Scene.COUNT; other++) {
            int t = other;
            for (int k = 0; k < 3; k++) {
                int item = k;
                no("set in LEAVES of no LEAF, " + t, 5, x -> x.set(LINKED, item, t));
            }
        }
    }

    private static void moveOfNothing() {
        for (int n : new int[] {-1, 0, 1, HIGH}) {
            no("move from NOTHING", 1, x -> x.move(LEAF, 0, TWICE, 0, n));
            no("move to NOTHING", 1, x -> x.move(TWICE, 0, LEAF, 0, n));
            no("move from NOTHING to NOTHING", 1, x -> x.move(LEAF, 0, CHAIN, 0, n));
            no("move from NOTHING to itself", 1, x -> x.move(LEAF, 0, LEAF, 0, n));
        }
    }

    private static void moveOfOtherSorts() {
        int[] ofSort = {TWICE, THRICE, SHARE, LINKED};
        for (int from = 0; from <= 3; from++) {
            for (int to = 0; to <= 3; to++) {
                if (from == to || (from >= 2 && to >= 2)) {
                    continue;
                }
                int t = ofSort[from];
                int other = ofSort[to];
                String name = "move from sort " + from + " to " + to;
                no(name, 5, x -> x.move(t, 0, other, 0, 1));
                no(name + ", none", 5, x -> x.move(t, 0, other, 0, 0));
                no(name + ", beyond", 5, x -> x.move(t, 3, other, 3, 9));
                no(name + ", below 0", 5, x -> x.move(t, -1, other, -1, -1));
            }
        }
    }

    private static void moveBeyond() {
        int[][] threes = {{TWICE, THROWS}, {TWICE, TWICE}, {SHARE, SHARE}, {SHARE, LINKED}, {LINKED, SHARE},
            {LINKED, NAUGHT}};
        int[][] wrong = {{-1, 0, 1}, {0, -1, 1}, {0, 0, -1}, {-1, 0, 0}, {0, -1, 0}, {3, 0, 1}, {0, 3, 1}, {4, 0, 0},
            {0, 4, 0}, {0, 0, 4}, {1, 0, 3}, {0, 1, 3}, {2, 2, 2}, {LOW, 0, 1}, {0, LOW, 1}, {0, 0, LOW},
            {HIGH, 0, 1}, {0, HIGH, 1}, {0, 0, HIGH}, {1, 1, HIGH}, {HIGH, HIGH, HIGH}, {LOW, LOW, LOW},
            {HIGH, 0, HIGH}, {0, HIGH, HIGH}};
        for (int[] pair : threes) {
            for (int[] w : wrong) {
                no("move " + pair[0] + " " + w[0] + " " + pair[1] + " " + w[1] + " " + w[2], 3,
                        x -> x.move(pair[0], w[0], pair[1], w[1], w[2]));
            }
        }
        no("move longs beyond", 3, x -> x.move(THRICE, 1, SUM, 0, 2));
        no("move of none beyond none", 3, x -> x.move(FIRST, 1, FIRST, 0, 0));
        no("move out of none", 3, x -> x.move(FIRST, 0, TWICE, 0, 1));
        no("move into none", 3, x -> x.move(TWICE, 0, FIRST, 0, 1));
    }

    private static void moveOfNoLeaf() {
        no("move of no LEAF, the first one", 5, x -> x.move(SHARE, 1, LINKED, 1, 2));
        no("move of no LEAF, the only one", 5, x -> x.move(SHARE, 1, LINKED, 2, 1));
        ClassRunner x = Scene.made();
        Due.due("move, one ahead of no LEAF", x.move(SHARE, 0, LINKED, 1, 2), 0);
        ClassRunner y = Scene.made();
        y.set(LINKED, 1, LEAF);
        State want = new State(y).afterOutcome(5);
        want.told[0]--;
        new State(x).due("move, one ahead of no LEAF", want);
    }

    private static void run() {
        no("run of LINKED to NOTHING", 1, 1, 1, x -> x.run(LINKED, 1));
        no("run of what throws NOTHING", 1, 1, 1, x -> x.run(NAUGHT, 1));
        no("run of SUM of longs", 2, 1, 1, x -> x.run(SUM, 1));
        no("run of FIRST of none", 3, 1, 1, x -> x.run(FIRST, 1));
        no("run of SHARE of 0", 6, 1, 1, x -> x.run(SHARE, 1));
        no("run of THROWS", 7, 1, 1, x -> x.run(THROWS, 1));
        no("run of LINKED to THROWS", 7, 2, 2, x -> x.run(CHAIN, 2));
        no("run of LINKED to itself", 8, 30, 30, x -> x.run(ROUND, 100));
        no("run of LINKED to itself, 31", 8, 30, 30, x -> x.run(ROUND, 31));
        no("run of LINKED to itself, 30", 9, 30, 30, x -> x.run(ROUND, 30));
        no("run of LINKED to itself, 1", 9, 1, 1, x -> x.run(ROUND, 1));
        no("run of LINKED to THROWS, 1", 9, 1, 1, x -> x.run(CHAIN, 1));
    }

    private static void either() {
        no("either, NOTHING", 1, 2, 1, x -> x.either(SHARE, LINKED, 2));
        no("either, CAST", 2, 2, 1, x -> x.either(LINKED, SUM, 2));
        no("either, INDEX", 3, 2, 1, x -> x.either(SUM, FIRST, 2));
        no("either, ZERO", 6, 2, 1, x -> x.either(FIRST, SHARE, 2));
        no("either, OWN", 7, 2, 1, x -> x.either(NAUGHT, THROWS, 2));
        no("either, OWN twice", 7, 3, 2, x -> x.either(THROWS, CHAIN, 3));
        no("either, DEEP at once", 8, 30, 30, x -> x.either(ROUND, LEAF, 100));
        no("either, DEEP in the other", 8, 31, 30, x -> x.either(SHARE, ROUND, 32));
        no("either, SPENT in the other", 9, 31, 30, x -> x.either(SHARE, ROUND, 31));
        no("either, SPENT at once", 9, 30, 30, x -> x.either(ROUND, LEAF, 30));
        no("either, SPENT ahead of the other", 9, 1, 0, x -> x.either(SHARE, LEAF, 1));
    }

    private static void gather() {
        no("gather of NOTHING", 1, 0, 0, x -> x.gather(LEAF, 1));
        no("gather of ZERO", 6, 1, 1, x -> x.gather(THROWS, 1));
        no("gather of OWN", 7, 1, 1, x -> x.gather(FIRST, 1));
        no("gather of INDEX", 3, 1, 1, x -> x.gather(SUM, 1));
        no("gather of DEEP", 8, 30, 30, x -> x.gather(ROUND, 31));
        no("gather of SPENT", 9, 30, 30, x -> x.gather(ROUND, 30));
        linkedTo(LINKED, 1);
        linkedTo(NAUGHT, 1);
        linkedTo(SUM, 2);
    }

    /** gather() of a thing that is linked, for once, to one whose number has an outcome. */
    private static void linkedTo(int other, int outcome) {
        SEEN.get("gather").add(outcome);
        ClassRunner x = Scene.made();
        x.link(CHAIN, other);
        ClassRunner y = Scene.made();
        y.link(CHAIN, other);
        Due.due("gather of " + other, x.gather(CHAIN, 1), 0);
        new State(x).due("gather of " + other, new State(y).afterOutcome(outcome).afterWork(1, 1));
    }

    private static void keep() {
        for (int other : new int[] {TWICE, LEAF, THRICE, FIRST}) {
            no("keep, NOTHING", 1, 1, 1, x -> x.keep(LINKED, other, 0, 1));
            no("keep, CAST", 2, 1, 1, x -> x.keep(SUM, other, 0, 1));
            no("keep, INDEX", 3, 1, 1, x -> x.keep(FIRST, other, 0, 1));
            no("keep, ZERO", 6, 1, 1, x -> x.keep(SHARE, other, 0, 1));
            no("keep, OWN", 7, 2, 2, x -> x.keep(CHAIN, other, -1, 2));
            no("keep, DEEP", 8, 30, 30, x -> x.keep(ROUND, other, 0, 100));
            no("keep, SPENT", 9, 1, 1, x -> x.keep(CHAIN, other, 0, 1));
        }
        for (int k : new int[] {LOW, -1, 0, HIGH}) {
            no("keep in NOTHING", 1, 1, 0, x -> x.keep(LEAF, CHAIN, k, 1));
            no("keep in longs", 2, 1, 0, x -> x.keep(LEAF, THRICE, k, 1));
            no("keep in THINGS", 2, 1, 0, x -> x.keep(LEAF, SHARE, k, 1));
            no("keep in LEAVES", 2, 1, 0, x -> x.keep(LEAF, LINKED, k, 1));
            no("keep in no ints", 3, 1, 0, x -> x.keep(LEAF, FIRST, k, 1));
        }
        for (int k : new int[] {LOW, -1, 3, HIGH}) {
            no("keep in ints, " + k, 3, 1, 0, x -> x.keep(LEAF, TWICE, k, 1));
        }
    }

    private static void allSeen() {
        Set<Integer> numbers = Set.of(1, 2, 3, 6, 7, 8, 9);
        Map<String, Set<Integer>> named = Map.ofEntries(Map.entry("follow", Set.of(1)),
                Map.entry("trade", Set.of(1)), Map.entry("hold", Set.of(4)), Map.entry("size", Set.of(1)),
                Map.entry("at", Set.of(1, 3)), Map.entry("lay", Set.of(1, 2, 3)),
                Map.entry("set", Set.of(1, 2, 3, 5)), Map.entry("move", Set.of(1, 3, 5)),
                Map.entry("run", numbers), Map.entry("either", numbers), Map.entry("gather", numbers),
                Map.entry("keep", numbers));
        Due.due("each outcome that the document names has been asked for: " + SEEN, SEEN.equals(named) ? 1 : 0, 1);
    }
}
