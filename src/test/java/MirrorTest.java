import java.util.Random;

/** The same chance runs of calls on the class and on the mirror, answer by answer. */
public final class MirrorTest {
    private static final int RUNS = 6000;
    private static final int CALLS = 250;
    private static final int[] SPECIAL = {0, 1, -1, 2, -3, 7, 1000, 1001, -1000, 2000000000,
        Integer.MAX_VALUE, Integer.MIN_VALUE};

    private final Random chance;
    private final ClassRunner runner = new ClassRunner();
    private final Mirror mirror = new Mirror();
    private final int most;
    private final StringBuilder story = new StringBuilder();

    private MirrorTest(long seed) {
        chance = new Random(seed);
        most = 1 + chance.nextInt(40);
    }

    public static void main(String[] args) {
        int[] seen = new int[10];
        for (int run = 0; run < RUNS; run++) {
            MirrorTest test = new MirrorTest(run);
            for (int call = 0; call < CALLS; call++) {
                if (!test.one()) {
                    System.out.println("run " + run + ":\n" + test.story);
                    System.exit(1);
                }
            }
            for (int outcome = 0; outcome < seen.length; outcome++) {
                seen[outcome] += test.mirror.told(outcome);
            }
        }
        for (int outcome = 0; outcome < seen.length; outcome++) {
            Due.due("runs met outcome " + outcome + " often", seen[outcome] > 1000 ? 1 : 0, 1);
        }
        Due.end();
    }

    private boolean one() {
        int kind = chance.nextInt(40);
        if (mirror.things() < most && chance.nextInt(3) == 0) {
            kind = 0;
        }
        if (mirror.things() >= most && kind == 0 && chance.nextInt(4) != 0) {
            kind = 22;
        }
        return kind < 20 ? plain(kind) : heavy(kind);
    }

    private boolean plain(int kind) {
        int t = thing();
        int o = thing();
        int n = small();
        switch (kind) {
            case 0: {
                int cls = chance.nextInt(20) == 0 ? number() : chance.nextInt(8);
                int v = number();
                return same("thing", runner.thing(cls, v), mirror.thing(cls, v), cls, v);
            }
            case 1: return same("own", runner.own(), mirror.own());
            case 2: return same("begun", runner.begun(), mirror.begun());
            case 3: return same("deep", runner.deep(), mirror.deep());
            case 4: return same("told", runner.told(n), mirror.told(n), n);
            case 5: return same("cls", runner.cls(t), mirror.cls(t), t);
            case 6: return same("is", runner.is(t, n), mirror.is(t, n), t, n);
            case 7: return same("v", runner.v(t), mirror.v(t), t);
            case 8: {
                int v = number();
                return same("become", runner.become(t, v), mirror.become(t, v), t, v);
            }
            case 9: case 10: case 11: return same("link", runner.link(t, o), mirror.link(t, o), t, o);
            case 12: return same("linked", runner.linked(t), mirror.linked(t), t);
            case 13: return same("follow", runner.follow(t), mirror.follow(t), t);
            case 14: return same("trade", runner.trade(t), mirror.trade(t), t);
            case 15: return same("share", runner.share(t, o), mirror.share(t, o), t, o);
            case 16: return same("holds", runner.holds(t), mirror.holds(t), t);
            case 17: return same("size", runner.size(t), mirror.size(t), t);
            case 18: return same("at", runner.at(t, n), mirror.at(t, n), t, n);
            default: return same("things", runner.things(), mirror.things());
        }
    }

    private boolean heavy(int kind) {
        int t = thing();
        int o = thing();
        int i = small();
        int j = small();
        int n = small();
        int limit = chance.nextInt(4) == 0 ? chance.nextInt(6) : chance.nextInt(102);
        switch (kind) {
            case 20: case 21: case 22: {
                int sort = chance.nextInt(6) - 1 - chance.nextInt(25) / 24;
                return same("hold", runner.hold(t, sort, n), mirror.hold(t, sort, n), t, sort, n);
            }
            case 23: case 24: {
                long v = chance.nextBoolean() ? number() : chance.nextLong();
                return same("lay", runner.lay(t, i, v), mirror.lay(t, i, v), t, i, v);
            }
            case 25: case 26: case 27: return same("set", runner.set(t, i, o), mirror.set(t, i, o), t, i, o);
            case 28: case 29: case 30: return same("move", runner.move(t, i, o, j, n), mirror.move(t, i, o, j, n), t, i, o, j, n);
            case 31: case 32: case 33: return same("run", runner.run(t, limit), mirror.run(t, limit), t, limit);
            case 34: case 35:
                return same("either", runner.either(t, o, limit), mirror.either(t, o, limit), t, o, limit);
            case 36: case 37: return same("gather", runner.gather(t, limit), mirror.gather(t, limit), t, limit);
            default:
                return same("keep", runner.keep(t, o, i, limit), mirror.keep(t, o, i, limit), t, o, i, limit);
        }
    }

    private int thing() {
        int roll = chance.nextInt(40);
        if (roll == 0) {
            return number();
        }
        return roll == 1 || mirror.things() == 0 ? chance.nextInt(43) - 2 : chance.nextInt(mirror.things());
    }

    private int number() {
        return chance.nextInt(3) == 0 ? chance.nextInt() : SPECIAL[chance.nextInt(SPECIAL.length)];
    }

    private int small() {
        int roll = chance.nextInt(30);
        if (roll == 0) {
            return number();
        }
        return roll < 5 ? chance.nextInt(16) - 2 : chance.nextInt(5);
    }

    private boolean same(String call, long got, long want, long... args) {
        story.append(call).append(java.util.Arrays.toString(args)).append(" ").append(got).append('\n');
        int outcome = runner.outcome();
        if (got == want && outcome == mirror.outcome()) {
            return true;
        }
        story.append("due is ").append(want).append("; outcome ").append(outcome).append(", due is ")
                .append(mirror.outcome()).append('\n');
        return false;
    }
}
