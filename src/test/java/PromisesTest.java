/** Each promise of the document by itself: ordinary inputs, edges, wrong inputs. */
public final class PromisesTest extends Cases {
    public static void main(String[] args) {
        newObject();
        thing();
        outcome();
        own();
        begun();
        deep();
        told();
        clsAndIs();
        vAndBecome();
        linkAndLinked();
        follow();
        trade();
        hold();
        shareAndHolds();
        size();
        at();
        lay();
        set();
        moveOfOneSort();
        moveOfTwoSorts();
        moveRefused();
        runOfEachClass();
        runOfRows();
        runWithinBounds();
        either();
        gather();
        keep();
        things();
        Due.end();
    }

    private static void newObject() {
        start("1 new object");
        due("things", x.things(), 0);
        due("outcome", x.outcome(), 0);
        due("own", x.own(), 0);
        due("begun", x.begun(), 0);
        due("deep", x.deep(), 0);
        for (int outcome = 0; outcome <= 9; outcome++) {
            due("told " + outcome, x.told(outcome), 0);
        }
        outside("cls(0)", x.cls(0));
        ClassRunner other = new ClassRunner();
        x.thing(LEAF, 1);
        due("things of another object", other.things(), 0);
    }

    private static void thing() {
        start("2 thing");
        outside("thing(-1)", x.thing(-1, 0));
        outside("thing(8)", x.thing(8, 0));
        for (int t = 0; t < 40; t++) {
            due("thing", x.thing(t % 8, t - 20), t);
        }
        due("one too many", x.thing(LEAF, 0), FULL);
        outside("thing(8) when full", x.thing(8, 0));
        outside("thing(MIN) when full", x.thing(LOW, 0));
        due("things", x.things(), 40);
        for (int t = 0; t < 40; t++) {
            due("cls", x.cls(t), t % 8);
            due("v", x.v(t), t - 20);
            due("linked", x.linked(t), NONE);
            due("holds", x.holds(t), NONE);
        }
        due("told(0)", x.told(0), 0);
    }

    private static void outcome() {
        start("3 outcome", LEAF, SHARE);
        x.run(1, 1);
        due("of a run", x.outcome(), 6);
        x.thing(LEAF, 1);
        x.cls(0);
        x.is(0, 0);
        x.v(0);
        x.become(0, 3);
        x.link(0, 1);
        x.linked(0);
        x.share(0, 1);
        x.holds(0);
        x.told(0);
        x.own();
        x.things();
        due("stays over calls that tell none", x.outcome(), 6);
        due("told(0)", x.told(0), 0);
        x.run(9, 1);
        x.run(0, 0);
        x.hold(0, INTS, 13);
        x.size(7);
        x.at(-1, 0);
        x.lay(3, 0, 0);
        x.set(0, 0, -2);
        x.move(0, 0, 3, 0, 0);
        x.follow(-1);
        x.trade(3);
        x.either(0, 3, 1);
        x.gather(0, 101);
        x.keep(0, 3, 0, 1);
        due("stays over OUTSIDE", x.outcome(), 6);
        due("told(6)", x.told(6), 1);
        x.size(0);
        due("of size", x.outcome(), 1);
        x.hold(0, INTS, 1);
        due("of hold", x.outcome(), 0);
    }

    private static void own() {
        start("4 own", LEAF, THROWS, THROWS, SHARE);
        x.become(1, 5);
        x.become(2, -6);
        due("none yet", x.own(), 0);
        x.either(1, 0, 9);
        due("passed over by either", x.own(), 0);
        x.either(1, 3, 9);
        due("passed over, then ZERO", x.own(), 0);
        x.run(1, 9);
        due("told", x.own(), 5);
        x.either(1, 2, 9);
        due("the second of two", x.own(), -6);
        x.either(1, 0, 1);
        due("passed over, then SPENT", x.own(), -6);
        x.run(0, 9);
        due("stays when done", x.own(), -6);
        x.become(1, 0);
        told("NOTHING is thrown", x.run(1, 9), 0, 1);
        due("stays when NOTHING is thrown", x.own(), -6);
        x.become(1, LOW);
        x.link(0, 1);
        told("gather", x.gather(0, 9), 0, 7);
        due("of gather", x.own(), LOW);
        x.become(2, HIGH);
        told("keep", x.keep(2, 0, 0, 9), 0, 7);
        due("of keep", x.own(), HIGH);
    }

    private static void begun() {
        start("5 begun", LEAF, LINKED, LINKED, THROWS, FIRST);
        x.link(1, 0);
        x.link(2, 1);
        x.run(2, 100);
        due("chain of three", x.begun(), 3);
        x.size(0);
        x.run(2, 0);
        x.run(7, 1);
        due("stays over others and OUTSIDE", x.begun(), 3);
        x.run(2, 2);
        due("spent", x.begun(), 2);
        x.either(3, 2, 100);
        due("either, both", x.begun(), 4);
        x.either(2, 3, 100);
        due("either, one", x.begun(), 3);
        x.gather(0, 5);
        due("gather of NOTHING", x.begun(), 0);
        x.gather(2, 5);
        due("gather", x.begun(), 2);
        x.keep(2, 0, 0, 5);
        due("keep", x.begun(), 3);
        x.hold(4, THINGS, 1);
        x.set(4, 0, 2);
        x.run(4, 9);
        due("first", x.begun(), 4);
    }

    private static void deep() {
        start("6 deep", SHARE, LINKED, LINKED, LEAF, FIRST);
        x.link(1, 0);
        x.link(2, 1);
        x.run(2, 100);
        due("ZERO in the third", x.deep(), 3);
        x.size(3);
        x.run(2, 101);
        due("stays over others and OUTSIDE", x.deep(), 3);
        x.run(2, 2);
        due("spent ahead of the third", x.deep(), 2);
        x.either(2, 1, 100);
        due("of the second of either", x.deep(), 2);
        x.either(2, 3, 100);
        due("either done", x.deep(), 0);
        x.either(2, 3, 3);
        due("either spent ahead of the second", x.deep(), 0);
        x.run(4, 1);
        due("FIRST of NOTHING", x.deep(), 1);
        x.hold(4, THINGS, 1);
        x.run(4, 1);
        due("FIRST, its item NOTHING", x.deep(), 1);
        x.set(4, 0, 2);
        x.run(4, 9);
        due("FIRST of a chain", x.deep(), 4);
        told("gather of NOTHING", x.gather(3, 9), 0, 1);
        due("gather of NOTHING", x.deep(), 0);
        told("gather", x.gather(2, 9), 0, 6);
        due("gather", x.deep(), 2);
        told("keep in NOTHING", x.keep(3, 3, 0, 9), 0, 1);
        due("keep: worked out by then", x.deep(), 0);
    }

    private static void told() {
        start("7 told", LEAF, SHARE, THROWS, LINKED, SUM);
        x.become(2, 8);
        x.link(3, 3);
        x.run(0, 1);
        x.hold(0, INTS, 2);
        x.hold(0, NONE, 0);
        x.follow(0);
        x.hold(4, LONGS, 1);
        x.run(4, 1);
        x.at(4, 1);
        x.hold(0, LEAVES, -5);
        x.hold(0, LEAVES, 1);
        x.set(0, 0, 1);
        x.run(1, 1);
        x.run(2, 1);
        x.run(3, 100);
        x.run(3, 9);
        x.run(3, 8);
        int[] want = {5, 1, 1, 1, 1, 1, 1, 1, 1, 2};
        for (int outcome = 0; outcome < want.length; outcome++) {
            due("told " + outcome, x.told(outcome), want[outcome]);
        }
        x.either(1, 0, 5);
        due("either tells one", x.told(0), 6);
        due("and not what it passed over", x.told(6), 1);
        outside("told(-1)", x.told(-1));
        outside("told(10)", x.told(10));
        outside("told(MIN)", x.told(LOW));
        outside("told(MAX)", x.told(HIGH));
    }

    private static void clsAndIs() {
        start("8 cls, 9 is", LEAF, TWICE, THRICE, SHARE, LINKED, THROWS, FIRST, SUM);
        for (int t = 0; t < 8; t++) {
            due("cls", x.cls(t), t);
            for (int cls = 0; cls < 8; cls++) {
                boolean above = t == THRICE && cls < THRICE || t == TWICE && cls == LEAF;
                due("is(" + t + ", " + cls + ")", x.is(t, cls), t == cls || above ? 1 : 0);
            }
        }
        outside("cls(-1)", x.cls(-1));
        outside("cls(8)", x.cls(8));
        outside("is(-1, 0)", x.is(-1, 0));
        outside("is(8, 0)", x.is(8, 0));
        outside("is(0, -1)", x.is(0, -1));
        outside("is(0, 8)", x.is(0, 8));
        due("told(0)", x.told(0), 0);
    }

    private static void vAndBecome() {
        start("10 v, 11 become", LEAF, SHARE);
        due("become", x.become(0, LOW), 0);
        due("v", x.v(0), LOW);
        due("become", x.become(0, OUTSIDE), LOW);
        due("v", x.v(0), OUTSIDE);
        due("v of the other", x.v(1), 0);
        outside("v(2)", x.v(2));
        outside("v(-1)", x.v(-1));
        outside("become(2)", x.become(2, 1));
        outside("become(-1)", x.become(-1, 1));
        due("told(0)", x.told(0), 0);
    }

    private static void linkAndLinked() {
        start("12 link, 13 linked", LEAF, LEAF);
        due("linked at first", x.linked(0), NONE);
        due("link to itself", x.link(0, 0), NONE);
        due("linked", x.linked(0), 0);
        due("link to the other", x.link(0, 1), 0);
        due("link to NOTHING", x.link(0, NONE), 1);
        due("link again", x.link(0, 1), NONE);
        outside("link(0, 2)", x.link(0, 2));
        outside("link(0, -2)", x.link(0, -2));
        outside("link(2, 0)", x.link(2, 0));
        outside("link(-1, 0)", x.link(-1, 0));
        outside("linked(2)", x.linked(2));
        outside("linked(-1)", x.linked(-1));
        due("linked", x.linked(0), 1);
        due("told(0)", x.told(0), 0);
    }

    private static void follow() {
        start("14 follow", LEAF, LEAF, LEAF);
        told("of NOTHING", x.follow(0), 0, 1);
        due("linked", x.linked(0), NONE);
        x.link(0, 1);
        x.link(1, 2);
        done("along", x.follow(0), 2);
        due("linked", x.linked(0), 2);
        due("linked of the other", x.linked(1), 2);
        done("to NOTHING", x.follow(0), NONE);
        due("linked", x.linked(0), NONE);
        x.link(2, 2);
        done("of itself", x.follow(2), 2);
        outside("follow(3)", x.follow(3));
        outside("follow(-1)", x.follow(-1));
    }

    private static void trade() {
        start("15 trade", LEAF, SHARE);
        x.become(0, 7);
        x.become(1, -8);
        told("with NOTHING", x.trade(0), 0, 1);
        due("v", x.v(0), 7);
        x.link(0, 1);
        done("with the other", x.trade(0), -8);
        due("v", x.v(0), -8);
        due("v of the other", x.v(1), 7);
        x.link(1, 1);
        done("with itself", x.trade(1), 7);
        due("v", x.v(1), 7);
        outside("trade(2)", x.trade(2));
        outside("trade(-1)", x.trade(-1));
    }

    private static void hold() {
        start("16 hold", LEAF, LEAF);
        for (int sort = INTS; sort <= LEAVES; sort++) {
            done("of 12", x.hold(0, sort, 12), 12);
            due("holds", x.holds(0), sort);
            due("item at first", x.at(0, 11), sort >= THINGS ? NONE : 0);
            done("of none", x.hold(0, sort, 0), 0);
            due("size", x.size(0), 0);
            x.hold(0, sort, 3);
            told("below 0", x.hold(0, LEAVES - sort, -1), 0, 4);
            told("far below 0", x.hold(0, LEAVES - sort, LOW), 0, 4);
            due("holds as before", x.holds(0), sort);
            due("size as before", x.size(0), 3);
        }
        x.hold(0, INTS, -1);
        outside("n 13", x.hold(0, INTS, 13));
        outside("n MAX", x.hold(0, LONGS, HIGH));
        outside("n 13 of NOTHING", x.hold(0, NONE, 13));
        outside("sort -2", x.hold(0, -2, -1));
        outside("sort 4", x.hold(0, 4, 1));
        outside("thing 2", x.hold(2, INTS, 1));
        outside("thing -1", x.hold(-1, INTS, -1));
        due("outcome", x.outcome(), 4);
        done("NOTHING", x.hold(0, NONE, 5), 0);
        due("holds", x.holds(0), NONE);
        x.hold(0, INTS, 1);
        done("NOTHING, below 0", x.hold(0, NONE, LOW), 0);
        due("holds", x.holds(0), NONE);
        due("the other holds", x.holds(1), NONE);
    }

    private static void shareAndHolds() {
        start("17 share, 18 holds", LEAF, SUM);
        due("share NOTHING", x.share(0, 1), NONE);
        for (int sort = INTS; sort <= LEAVES; sort++) {
            x.hold(0, sort, 2);
            due("share", x.share(1, 0), sort);
            due("holds", x.holds(1), sort);
        }
        x.hold(0, INTS, 2);
        x.share(1, 0);
        x.lay(0, 1, 9);
        due("the same row", x.at(1, 1), 9);
        due("share with itself", x.share(1, 1), INTS);
        x.hold(0, INTS, 2);
        due("a new row is another one", x.at(1, 1), 9);
        due("and is new", x.at(0, 1), 0);
        x.hold(0, NONE, 0);
        due("share NOTHING", x.share(1, 0), NONE);
        due("holds", x.holds(1), NONE);
        int counted = x.told(0);
        x.share(1, 0);
        x.holds(1);
        due("no outcome", x.told(0), counted);
        outside("share(2, 0)", x.share(2, 0));
        outside("share(0, 2)", x.share(0, 2));
        outside("share(0, -1)", x.share(0, NONE));
        outside("share(-1, 0)", x.share(-1, 0));
        outside("holds(2)", x.holds(2));
        outside("holds(-1)", x.holds(-1));
    }

    private static void size() {
        start("19 size", LEAF);
        told("of NOTHING", x.size(0), 0, 1);
        x.hold(0, LEAVES, 12);
        done("of 12", x.size(0), 12);
        x.hold(0, LONGS, 0);
        done("of none", x.size(0), 0);
        outside("size(1)", x.size(1));
        outside("size(-1)", x.size(-1));
    }

    private static void at() {
        start("20 at", LEAF, SHARE);
        told("of NOTHING", x.at(0, 0), 0, 1);
        told("of NOTHING, no such item", x.at(0, -1), 0, 1);
        x.hold(0, LONGS, 2);
        x.lay(0, 1, Long.MIN_VALUE);
        done("long", x.at(0, 1), Long.MIN_VALUE);
        x.hold(0, THINGS, 2);
        x.set(0, 1, 1);
        done("thing", x.at(0, 1), 1);
        done("NOTHING", x.at(0, 0), NONE);
        told("beyond", x.at(0, 2), 0, 3);
        told("below", x.at(0, -1), 0, 3);
        told("far beyond", x.at(0, HIGH), 0, 3);
        told("far below", x.at(0, LOW), 0, 3);
        x.hold(0, INTS, 0);
        told("of none", x.at(0, 0), 0, 3);
        outside("at(2, 0)", x.at(2, 0));
        outside("at(-1, 0)", x.at(-1, 0));
    }

    private static void lay() {
        start("21 lay", LEAF);
        told("in NOTHING", x.lay(0, 0, 1), 0, 1);
        x.hold(0, INTS, 2);
        done("int", x.lay(0, 1, 0x180000000L), 0);
        done("its lowest 32 bits", x.at(0, 1), LOW);
        done("what it was", x.lay(0, 1, -1), LOW);
        told("beyond", x.lay(0, 2, 1), 0, 3);
        told("below", x.lay(0, -1, 1), 0, 3);
        x.hold(0, LONGS, 1);
        done("long", x.lay(0, 0, 0x180000000L), 0);
        done("what it was", x.lay(0, 0, Long.MAX_VALUE), 0x180000000L);
        done("item", x.at(0, 0), Long.MAX_VALUE);
        told("beyond", x.lay(0, HIGH, 1), 0, 3);
        for (int sort = THINGS; sort <= LEAVES; sort++) {
            x.hold(0, sort, 1);
            told("in things", x.lay(0, 0, 0), 0, 2);
            told("in things, beyond", x.lay(0, 1, 0), 0, 2);
            due("as before", x.at(0, 0), NONE);
        }
        outside("lay(1)", x.lay(1, 0, 0));
        outside("lay(-1)", x.lay(-1, 0, 0));
    }

    private static void set() {
        start("22 set", LEAF, TWICE, THRICE, SHARE, LINKED, THROWS, FIRST, SUM);
        told("in NOTHING", x.set(0, 0, 1), 0, 1);
        for (int sort = INTS; sort <= LONGS; sort++) {
            x.hold(0, sort, 1);
            told("in numbers", x.set(0, 0, 1), 0, 2);
            told("in numbers, beyond", x.set(0, 1, 1), 0, 2);
        }
        x.hold(0, THINGS, 2);
        int was = NONE;
        for (int t = 0; t < 8; t++) {
            done("thing", x.set(0, 1, t), was);
            was = t;
        }
        done("NOTHING", x.set(0, 1, NONE), 7);
        done("what NOTHING was", x.set(0, 1, 0), NONE);
        x.hold(0, LEAVES, 2);
        done("LEAF", x.set(0, 0, 0), NONE);
        done("TWICE", x.set(0, 0, 1), 0);
        done("THRICE", x.set(0, 0, 2), 1);
        for (int t = 3; t < 8; t++) {
            told("no leaf", x.set(0, 0, t), 0, 5);
            told("no leaf, beyond", x.set(0, 2, t), 0, 3);
            told("no leaf, below", x.set(0, -1, t), 0, 3);
            due("as before", x.at(0, 0), 2);
        }
        x.set(0, 2, 0);
        outside("set to -2", x.set(0, 0, -2));
        outside("set to 8", x.set(0, 0, 8));
        outside("set to 8, beyond", x.set(0, 5, 8));
        outside("set of 8", x.set(8, 0, 0));
        outside("set of -1", x.set(-1, 0, 0));
        due("outcome", x.outcome(), 3);
        done("NOTHING", x.set(0, 0, NONE), 2);
    }

    private static void moveOfOneSort() {
        start("23 move", LEAF, LEAF);
        fill(0, 5);
        x.hold(1, INTS, 4);
        done("ints", x.move(0, 1, 1, 2, 2), 2);
        items("ints", 1, 0, 0, 2, 3);
        done("within a row, on", x.move(0, 0, 0, 1, 4), 4);
        items("within a row, on", 0, 1, 1, 2, 3, 4);
        x.share(1, 0);
        done("within a shared row, back", x.move(0, 2, 1, 0, 3), 3);
        items("within a shared row, back", 0, 2, 3, 4, 3, 4);
        x.hold(0, LONGS, 2);
        x.hold(1, LONGS, 2);
        x.lay(0, 0, Long.MIN_VALUE);
        done("longs", x.move(0, 0, 1, 1, 1), 1);
        due("long", x.at(1, 1), Long.MIN_VALUE);
        done("none, at both ends", x.move(0, 2, 1, 2, 0), 0);
        x.hold(0, LEAVES, 2);
        x.hold(1, LEAVES, 2);
        x.set(0, 0, 1);
        done("leaves", x.move(0, 0, 1, 0, 2), 2);
        items("leaves", 1, 1, NONE);
    }

    private static void moveOfTwoSorts() {
        start("23 move", LEAF, LEAF, THRICE, SHARE);
        x.hold(0, THINGS, 5);
        x.hold(1, LEAVES, 5);
        x.set(0, 0, 2);
        x.set(0, 2, 0);
        x.set(0, 3, 3);
        x.set(0, 4, 1);
        told("at the first no leaf", x.move(0, 0, 1, 0, 5), 0, 5);
        items("those ahead have gone", 1, 2, NONE, 0, NONE, NONE);
        done("ahead of it", x.move(0, 0, 1, 2, 3), 3);
        items("ahead of it", 1, 2, NONE, 2, NONE, 0);
        done("behind it", x.move(0, 4, 1, 0, 1), 1);
        told("it alone", x.move(0, 3, 1, 0, 1), 0, 5);
        told("it alone, beyond", x.move(0, 3, 1, 5, 1), 0, 3);
        items("as before", 1, 1, NONE, 2, NONE, 0);
        done("none", x.move(0, 3, 1, 0, 0), 0);
        done("leaves into things", x.move(1, 0, 0, 1, 4), 4);
        items("leaves into things", 0, 2, 1, NONE, 2, NONE);
        x.set(0, 0, 3);
        x.hold(1, THINGS, 1);
        done("things into things", x.move(0, 0, 1, 0, 1), 1);
        items("things into things", 1, 3);
    }

    private static void moveRefused() {
        start("23 move", LEAF, LEAF, LEAF);
        told("both NOTHING", x.move(0, -1, 1, 0, 0), 0, 1);
        x.hold(0, INTS, 3);
        told("to NOTHING", x.move(0, 0, 1, 0, 9), 0, 1);
        told("from NOTHING", x.move(1, 0, 0, 0, 9), 0, 1);
        for (int from = INTS; from <= LEAVES; from++) {
            for (int to = INTS; to <= LEAVES; to++) {
                x.hold(0, from, 3);
                x.hold(1, to, 3);
                boolean goes = from == to || from >= THINGS && to >= THINGS;
                told("sorts " + from + ", " + to, x.move(0, 0, 1, 0, 3), goes ? 3 : 0, goes ? 0 : 5);
                told("sorts, below", x.move(0, 0, 1, 0, -1), 0, goes ? 3 : 5);
            }
        }
        fill(0, 3);
        fill(1, 3);
        int[][] wrong = {{-1, 0, 1}, {0, -1, 1}, {0, 0, -1}, {1, 0, 3}, {0, 1, 3}, {4, 0, 0}, {0, 4, 0},
            {1, 1, HIGH}, {HIGH, 0, HIGH}, {0, HIGH, 1}, {LOW, LOW, LOW}, {HIGH, HIGH, 2}, {0, 0, LOW}};
        for (int[] w : wrong) {
            told("move(" + w[0] + ", " + w[1] + ", " + w[2] + ")", x.move(0, w[0], 1, w[1], w[2]), 0, 3);
        }
        items("as before", 1, 1, 2, 3);
        x.move(0, 0, 1, 0, 4);
        outside("from 3", x.move(3, 0, 0, 0, 0));
        outside("from -1", x.move(-1, 0, 0, 0, 0));
        outside("to 3", x.move(0, 0, 3, 0, 0));
        outside("to -1", x.move(0, 0, -1, 0, 0));
        due("outcome", x.outcome(), 3);
    }

    private static void runOfEachClass() {
        start("24 run", LEAF, TWICE, THRICE, SHARE, LINKED, THROWS, FIRST, SUM);
        for (int v : new int[] {1, -7, 0x40000000, HIGH, LOW}) {
            for (int t = 0; t < 4; t++) {
                x.become(t, v);
            }
            done("LEAF", x.run(0, 1), v);
            done("TWICE", x.run(1, 1), v + v);
            done("THRICE", x.run(2, 1), v + v + v);
            done("SHARE", x.run(3, 1), 1000 / v);
        }
        x.become(3, 0);
        told("SHARE of 0", x.run(3, 1), 0, 6);
        told("LINKED to NOTHING, none left", x.run(4, 1), 0, 1);
        x.link(4, 0);
        x.become(0, HIGH);
        done("LINKED", x.run(4, 2), LOW);
        x.become(5, 3);
        told("THROWS", x.run(5, 1), 0, 7);
        x.become(5, 0);
        told("THROWS NOTHING", x.run(5, 1), 0, 1);
        x.become(4, 50);
        x.run(4, 2);
        due("v stays", x.v(4), 50);
        outside("thing 8", x.run(8, 1));
        outside("thing -1", x.run(-1, 1));
        outside("limit 0", x.run(0, 0));
        outside("limit 101", x.run(0, 101));
        outside("limit MIN", x.run(0, LOW));
        done("limit 100", x.run(0, 100), HIGH);
    }

    private static void runOfRows() {
        start("24 run", FIRST, SUM, LEAF, SHARE);
        told("FIRST of NOTHING", x.run(0, 1), 0, 1);
        told("SUM of NOTHING", x.run(1, 1), 0, 1);
        int[] sums = {0, 2, 2, 2};
        for (int sort = INTS; sort <= LEAVES; sort++) {
            x.hold(0, sort, 0);
            x.share(1, 0);
            told("FIRST of none", x.run(0, 1), 0, 3);
            told("SUM of none", x.run(1, 1), 0, sums[sort]);
        }
        fill(0, 12);
        x.share(1, 0);
        done("FIRST of ints", x.run(0, 1), 1);
        done("SUM of ints", x.run(1, 1), 78);
        x.lay(1, 0, HIGH);
        done("SUM goes round", x.run(1, 1), HIGH + 77);
        x.hold(0, LONGS, 1);
        x.lay(0, 0, 0x7fffffff80000000L);
        done("FIRST of longs", x.run(0, 1), LOW);
        x.become(2, 44);
        for (int sort = THINGS; sort <= LEAVES; sort++) {
            x.hold(0, sort, 2);
            told("FIRST, NOTHING", x.run(0, 1), 0, 1);
            x.set(0, 0, 2);
            done("FIRST of things", x.run(0, 2), 44);
            told("FIRST, spent", x.run(0, 1), 0, 9);
        }
        x.hold(0, THINGS, 1);
        x.set(0, 0, 3);
        told("FIRST of SHARE", x.run(0, 2), 0, 6);
    }

    private static void runWithinBounds() {
        start("24 run", LINKED, FIRST);
        x.link(0, 1);
        x.hold(1, THINGS, 1);
        x.set(1, 0, 0);
        told("round and round", x.run(0, 100), 0, 8);
        due("begun", x.begun(), 30);
        due("deep", x.deep(), 30);
        told("limit 31", x.run(0, 31), 0, 8);
        told("limit 30", x.run(0, 30), 0, 9);
        due("deep", x.deep(), 30);
        start("24 run");
        for (int t = 0; t < 32; t++) {
            x.thing(LINKED, 0);
            x.link(t, t - 1);
        }
        told("30 deep, then NOTHING", x.run(29, 100), 0, 1);
        due("deep", x.deep(), 30);
        told("31 deep", x.run(30, 100), 0, 8);
        x.link(1, x.thing(LEAF, 6));
        done("29 and a LEAF", x.run(29, 30), 35);
        told("29 and a LEAF, spent", x.run(29, 29), 0, 9);
        told("30 and a LEAF", x.run(30, 31), 0, 8);
    }

    private static void either() {
        start("25 either", LEAF, SHARE, THROWS, LINKED, FIRST, SUM);
        x.become(0, 9);
        x.become(2, 1);
        done("the first", x.either(0, 1, 1), 9);
        told("NOTHING, no other either", x.either(3, 3, 9), 0, 1);
        done("NOTHING, then the other", x.either(3, 0, 2), 9);
        done("ZERO, then the other", x.either(1, 0, 2), 9);
        done("OWN, then the other", x.either(2, 0, 2), 9);
        x.hold(4, INTS, 0);
        done("INDEX, then the other", x.either(4, 0, 2), 9);
        x.hold(5, LONGS, 0);
        done("CAST, then the other", x.either(5, 0, 2), 9);
        told("outcome of the other", x.either(5, 2, 9), 0, 7);
        told("nothing left", x.either(5, 0, 1), 0, 9);
        due("begun", x.begun(), 1);
        x.link(3, 3);
        told("DEEP stays", x.either(3, 0, 100), 0, 8);
        due("begun", x.begun(), 30);
        told("SPENT stays", x.either(3, 0, 3), 0, 9);
        due("begun", x.begun(), 3);
        told("the other is not within", x.either(1, 3, 100), 0, 8);
        due("begun", x.begun(), 31);
        due("deep", x.deep(), 30);
        outside("thing 6", x.either(6, 0, 1));
        outside("thing -1", x.either(-1, 0, 1));
        outside("other 6, not needed", x.either(0, 6, 1));
        outside("other -1", x.either(0, -1, 1));
        outside("limit 0", x.either(0, 0, 0));
        outside("limit 101", x.either(0, 0, 101));
        due("outcome", x.outcome(), 8);
    }

    private static void gather() {
        start("26 gather", LEAF, TWICE, LINKED);
        x.become(0, 5);
        told("of NOTHING", x.gather(0, 1), 0, 1);
        x.link(0, 1);
        x.become(1, 4);
        done("of the other", x.gather(0, 1), 13);
        due("v", x.v(0), 13);
        due("v of the other", x.v(1), 4);
        x.become(1, 0x3fffffff);
        done("goes round", x.gather(0, 1), 13 + HIGH - 1);
        x.link(0, 2);
        told("LINKED to NOTHING", x.gather(0, 9), 0, 1);
        due("deep", x.deep(), 1);
        x.link(2, 0);
        told("spent", x.gather(0, 1), 0, 9);
        due("v as before", x.v(0), 13 + HIGH - 1);
        x.become(0, 21);
        x.link(0, 0);
        done("of itself", x.gather(0, 1), 42);
        x.link(2, 2);
        told("itself, round", x.gather(2, 100), 0, 8);
        due("v as before", x.v(2), 0);
        outside("thing 3", x.gather(3, 1));
        outside("thing -1", x.gather(-1, 1));
        outside("limit 0", x.gather(1, 0));
        outside("limit 101", x.gather(1, 101));
        due("outcome", x.outcome(), 8);
    }

    private static void keep() {
        start("27 keep", LEAF, SHARE, SUM);
        x.become(0, 6);
        told("in NOTHING", x.keep(0, 2, 0, 1), 0, 1);
        told("ZERO first", x.keep(1, 2, 0, 1), 0, 6);
        due("begun", x.begun(), 1);
        due("deep", x.deep(), 1);
        for (int sort = LONGS; sort <= LEAVES; sort++) {
            x.hold(2, sort, 1);
            told("in another sort", x.keep(0, 2, 0, 1), 0, 2);
            told("in another sort, beyond", x.keep(0, 2, 1, 1), 0, 2);
            due("as before", x.at(2, 0), sort == LONGS ? 0 : NONE);
        }
        x.hold(2, INTS, 2);
        told("beyond", x.keep(0, 2, 2, 1), 0, 3);
        told("below", x.keep(0, 2, -1, 1), 0, 3);
        told("far below", x.keep(0, 2, LOW, 1), 0, 3);
        due("deep", x.deep(), 0);
        done("kept", x.keep(0, 2, 1, 1), 6);
        due("item", x.at(2, 1), 6);
        done("its own sum", x.keep(2, 2, 0, 1), 6);
        done("its own sum again", x.keep(2, 2, 1, 1), 12);
        told("ZERO", x.keep(1, 2, 1, 1), 0, 6);
        items("as before", 2, 6, 12);
        outside("thing 3", x.keep(3, 2, 0, 1));
        outside("thing -1", x.keep(-1, 2, 0, 1));
        outside("other 3", x.keep(0, 3, 0, 1));
        outside("other -1", x.keep(0, -1, 0, 1));
        outside("limit 0", x.keep(0, 2, 0, 0));
        outside("limit 101", x.keep(0, 2, 9, 101));
    }

    private static void things() {
        start("28 things");
        for (int n = 0; n < 40; n++) {
            due("things", x.things(), n);
            x.thing(n % 8, n);
        }
        x.thing(LEAF, 0);
        due("things when full", x.things(), 40);
    }
}
