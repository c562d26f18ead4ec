import java.util.ArrayList;
import java.util.List;
import java.util.Set;
import java.util.TreeSet;
import java.util.function.Supplier;

/**
 * "Calls that are given a THING that there is not, or another number (not of an item) out of its
 * bounds, answer OUTSIDE, ahead of all; the OUTCOME stays then." Every call with every mixture of
 * numbers just inside, just outside and far outside: on no things, on a scene, on 40 things.
 */
public final class OutsideTest {
    private static final int THING = 0, THING_OR_NONE = 1, CLS = 2, SORT = 3, COUNT = 4, OUTCOME = 5, LIMIT = 6;
    /** V's, items, and what is counted in items: no number of these is ever OUTSIDE. */
    private static final int FREE = 7;
    private static final long LOW = Integer.MIN_VALUE, HIGH = Integer.MAX_VALUE;
    private static final Set<Integer> SILENT = Set.of();
    private static final Set<Integer> NUMBERS = Set.of(0, 1, 2, 3, 6, 7, 8, 9);

    private interface Call {
        long answer(ClassRunner x, int[] a);
    }

    private record Row(String name, Set<Integer> outcomes, Call call, int[] kinds) {
    }

    private final Supplier<ClassRunner> maker;
    private final int things;
    private final State untouched;

    private OutsideTest(Supplier<ClassRunner> maker) {
        this.maker = maker;
        things = maker.get().things();
        untouched = new State(maker.get());
    }

    public static void main(String[] args) {
        for (Row row : rows()) {
            new OutsideTest(ClassRunner::new).sweep(row);
            new OutsideTest(OutsideTest::full).sweep(row);
            new OutsideTest(Scene::made).sweep(row);
        }
        Due.end();
    }

    private static ClassRunner full() {
        ClassRunner x = new ClassRunner();
        for (int t = 0; t < 40; t++) {
            x.thing(t % 8, t);
        }
        x.hold(0, 0, -1);
        return x;
    }

    private static List<Row> rows() {
        List<Row> rows = new ArrayList<>();
        rows.add(row("thing", SILENT, (x, a) -> x.thing(a[0], a[1]), CLS, FREE));
        rows.add(row("told", SILENT, (x, a) -> x.told(a[0]), OUTCOME));
        rows.add(row("cls", SILENT, (x, a) -> x.cls(a[0]), THING));
        rows.add(row("is", SILENT, (x, a) -> x.is(a[0], a[1]), THING, CLS));
        rows.add(row("v", SILENT, (x, a) -> x.v(a[0]), THING));
        rows.add(row("become", SILENT, (x, a) -> x.become(a[0], a[1]), THING, FREE));
        rows.add(row("link", SILENT, (x, a) -> x.link(a[0], a[1]), THING, THING_OR_NONE));
        rows.add(row("linked", SILENT, (x, a) -> x.linked(a[0]), THING));
        rows.add(row("follow", Set.of(0, 1), (x, a) -> x.follow(a[0]), THING));
        rows.add(row("trade", Set.of(0, 1), (x, a) -> x.trade(a[0]), THING));
        rows.add(row("hold", Set.of(0, 4), (x, a) -> x.hold(a[0], a[1], a[2]), THING, SORT, COUNT));
        rows.add(row("share", SILENT, (x, a) -> x.share(a[0], a[1]), THING, THING));
        rows.add(row("holds", SILENT, (x, a) -> x.holds(a[0]), THING));
        rows.add(row("size", Set.of(0, 1), (x, a) -> x.size(a[0]), THING));
        rows.add(row("at", Set.of(0, 1, 3), (x, a) -> x.at(a[0], a[1]), THING, FREE));
        rows.add(row("lay", Set.of(0, 1, 2, 3), (x, a) -> x.lay(a[0], a[1], a[2]), THING, FREE, FREE));
        rows.add(row("set", Set.of(0, 1, 2, 3, 5), (x, a) -> x.set(a[0], a[1], a[2]), THING, FREE, THING_OR_NONE));
        rows.add(row("move", Set.of(0, 1, 3, 5), (x, a) -> x.move(a[0], a[1], a[2], a[3], a[4]),
                THING, FREE, THING, FREE, FREE));
        rows.add(row("run", NUMBERS, (x, a) -> x.run(a[0], a[1]), THING, LIMIT));
        rows.add(row("either", NUMBERS, (x, a) -> x.either(a[0], a[1], a[2]), THING, THING, LIMIT));
        rows.add(row("gather", NUMBERS, (x, a) -> x.gather(a[0], a[1]), THING, LIMIT));
        rows.add(row("keep", NUMBERS, (x, a) -> x.keep(a[0], a[1], a[2], a[3]), THING, THING, FREE, LIMIT));
        return rows;
    }

    private static Row row(String name, Set<Integer> outcomes, Call call, int... kinds) {
        return new Row(name, outcomes, call, kinds);
    }

    private void sweep(Row row) {
        sweep(row, new int[row.kinds.length], 0, false);
    }

    private void sweep(Row row, int[] args, int from, boolean outside) {
        if (from == args.length) {
            ask(row, args, outside);
            return;
        }
        int kind = row.kinds[from];
        for (long value : values(kind)) {
            args[from] = (int) value;
            sweep(row, args, from + 1, outside || value < lowest(kind) || value > highest(kind));
        }
    }

    private void ask(Row row, int[] args, boolean outside) {
        ClassRunner x = maker.get();
        String name = row.name + java.util.Arrays.toString(args) + " on " + things + " things";
        long answer = row.call.answer(x, args);
        Due.due(name + " is OUTSIDE:", answer == ClassRunner.OUTSIDE ? 1 : 0, outside ? 1 : 0);
        if (outside) {
            new State(x).due(name, untouched);
        } else {
            inside(row, name, x, answer);
        }
    }

    private void inside(Row row, String name, ClassRunner x, long answer) {
        boolean tells = !row.outcomes.isEmpty();
        int changed = 0;
        for (int i = 0; i <= 9; i++) {
            int more = x.told(i) - untouched.told[i];
            changed += more;
            Due.due(name + " told " + i + " more often, which was not its outcome:",
                    more != 0 && x.outcome() != i ? 1 : 0, 0);
        }
        Due.due(name + " told so many outcomes", changed, tells ? 1 : 0);
        if (tells) {
            Due.due(name + " told what it may, " + x.outcome(), row.outcomes.contains(x.outcome()) ? 1 : 0, 1);
            Due.due(name + " answered, as its outcome was above 0", x.outcome() > 0 ? answer : 0, 0);
        } else {
            Due.due("outcome after " + name, x.outcome(), untouched.outcome);
        }
    }

    /** Both bounds, what is just outside them, the ends of int, and a few in between. */
    private Set<Long> values(int kind) {
        Set<Long> values = new TreeSet<>(List.of(LOW, HIGH, -2L, -1L, 0L, 1L, lowest(kind), highest(kind),
                lowest(kind) - 1, highest(kind) + 1));
        values.removeIf(value -> value < LOW || value > HIGH);
        return values;
    }

    private long lowest(int kind) {
        return new long[] {0, -1, 0, -1, LOW, 0, 1, LOW}[kind];
    }

    private long highest(int kind) {
        return new long[] {things - 1, things - 1, 7, 3, 12, 9, 100, HIGH}[kind];
    }
}
