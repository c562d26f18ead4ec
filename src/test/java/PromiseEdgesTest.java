/** The sentences under each "Promise n" that name a boundary: just inside, just outside, and what shows afterwards. */
public final class PromiseEdgesTest extends Cases {
    private static final int[] NO_THINGS = {LOW, OUTSIDE, -2, -1, 2, 39, 40, HIGH};

    public static void main(String[] args) {
        newObjectIsEmpty();
        newObjectsAreApart();
        thingOfAClass();
        thingFull();
        thingTellsNone();
        outcomeOfTheLatest();
        outcomeOfEachCall();
        ownNone();
        ownToldAsOutcome();
        begunAheadOfAny();
        begunByTheLatestThatMay();
        begunAtTheLimit();
        deepWhenDone();
        deepWhereItArose();
        deepOutsideAnyNumber();
        toldFrom0To9();
        toldOncePerCall();
        clsOfAThing();
        isOfAClass();
        vAndBecome();
        linkAndLinked();
        followOfNothing();
        tradeWithItself();
        holdOf12();
        holdNothing();
        holdIsNew();
        shareNothing();
        holdsAndSize();
        atTheEnds();
        layLowest32Bits();
        setNothing();
        moveNone();
        moveWhole();
        moveOverItself();
        moveAheadOfNoLeaf();
        moveNoLeafAmongThings();
        moveOrderOfRefusals();
        runLimit();
        eitherPassesOver1To7();
        eitherLeavesOf8And9();
        eitherWhatIsLeft();
        gatherOfItself();
        gatherLimit();
        keepWorkedOutFirst();
        keepInWhatItSums();
        keepLimit();
        thingsFrom0To40();
        Due.end();
    }

    private static void newObjectIsEmpty() {
        start("1 No THINGS; OUTCOME 0");
        due("things", x.things(), 0);
        due("outcome", x.outcome(), 0);
        due("own", x.own(), 0);
        due("begun", x.begun(), 0);
        due("deep", x.deep(), 0);
        for (int outcome = 0; outcome <= 9; outcome++) {
            due("told", x.told(outcome), 0);
        }
        outside("v of 0", x.v(0));
        outside("run of 0", x.run(0, 1));
        outside("hold by 0", x.hold(0, INTS, -1));
        due("outcome still", x.outcome(), 0);
        due("told still", x.told(0), 0);
        due("the first thing", x.thing(LEAF, 0), 0);
    }

    private static void newObjectsAreApart() {
        start("1 two objects", THROWS, LEAF);
        ClassRunner one = x;
        one.become(0, 4);
        one.run(0, 1);
        start("1 two objects", LEAF);
        due("things", x.things(), 1);
        due("outcome", x.outcome(), 0);
        due("own", x.own(), 0);
        due("begun", x.begun(), 0);
        due("told", x.told(7), 0);
        x.run(0, 1);
        x.hold(0, INTS, -1);
        due("things of the one ahead", one.things(), 2);
        due("outcome of the one ahead", one.outcome(), 7);
        due("own of the one ahead", one.own(), 4);
        due("deep of the one ahead", one.deep(), 1);
        due("holds of the one ahead", one.holds(0), NONE);
    }

    private static void thingOfAClass() {
        start("2 a CLASS (0 to 7)");
        for (int cls : new int[] {LOW, -2, -1, 8, 9, HIGH}) {
            outside("thing of " + cls, x.thing(cls, 1));
            due("things", x.things(), 0);
        }
        due("thing of 0", x.thing(0, HIGH), 0);
        due("thing of 7", x.thing(7, LOW), 1);
        outside("thing of 8", x.thing(8, 1));
        outside("thing of -1", x.thing(-1, 1));
        due("things", x.things(), 2);
        due("the next number", x.thing(3, OUTSIDE), 2);
        due("cls", x.cls(1), 7);
        due("v", x.v(1), LOW);
        due("v", x.v(2), OUTSIDE);
    }

    private static void thingFull() {
        start("2 FULL");
        for (int t = 0; t < 40; t++) {
            due("thing", x.thing(t % 8, -t), t);
        }
        for (int cls = 0; cls <= 7; cls++) {
            due("thing when full", x.thing(cls, 99), FULL);
        }
        outside("OUTSIDE ahead of FULL", x.thing(8, 99));
        outside("OUTSIDE ahead of FULL", x.thing(-1, 99));
        due("things", x.things(), 40);
        for (int t = 0; t < 40; t++) {
            due("cls", x.cls(t), t % 8);
            due("v", x.v(t), -t);
        }
        outside("thing 40", x.cls(40));
    }

    private static void thingTellsNone() {
        start("2 (No OUTCOME.)", SHARE);
        x.run(0, 1);
        for (int t = 1; t <= 40; t++) {
            x.thing(LEAF, 0);
        }
        x.thing(8, 0);
        due("outcome stays", x.outcome(), 6);
        due("told", x.told(0), 0);
        due("begun stays", x.begun(), 1);
        due("deep stays", x.deep(), 1);
    }

    private static void outcomeOfTheLatest() {
        start("3 OUTCOME of the latest call of those that tell one", LEAF, SHARE);
        x.run(1, 1);
        due("at once", x.outcome(), 6);
        due("asked again", x.outcome(), 6);
        x.own();
        x.begun();
        x.deep();
        x.told(0);
        x.told(10);
        x.thing(LEAF, 0);
        x.thing(8, 0);
        x.cls(0);
        x.is(0, 0);
        x.v(0);
        x.become(0, 1);
        x.link(0, 1);
        x.linked(0);
        x.share(0, 1);
        x.holds(0);
        x.things();
        due("over all that tell none", x.outcome(), 6);
        x.run(0, 1);
        due("0 as well", x.outcome(), 0);
    }

    /** Each call that tells an outcome, once behind a 0 and once behind a 6. */
    private static void outcomeOfEachCall() {
        start("3 each call that tells one", LEAF, SHARE, LEAF, LEAF);
        x.hold(2, INTS, 2);
        x.hold(3, THINGS, 2);
        x.link(2, 0);
        for (int round = 0; round < 2; round++) {
            int behind = round == 0 ? 0 : 1;
            x.run(behind, 1);
            refused("follow", x.follow(0), 1);
            x.run(behind, 1);
            refused("trade", x.trade(0), 1);
            x.run(behind, 1);
            refused("hold", x.hold(0, INTS, -1), 4);
            x.run(behind, 1);
            done("hold", x.hold(2, INTS, 2), 2);
            x.run(behind, 1);
            done("size", x.size(2), 2);
            x.run(behind, 1);
            done("at", x.at(2, 0), 0);
            x.run(behind, 1);
            done("lay", x.lay(2, 0, 0), 0);
            x.run(behind, 1);
            done("set", x.set(3, 0, NONE), NONE);
            x.run(behind, 1);
            done("move", x.move(2, 0, 2, 1, 1), 1);
            x.run(behind, 1);
            done("either", x.either(1, 0, 2), 0);
            x.run(behind, 1);
            done("gather", x.gather(2, 1), 0);
            x.run(behind, 1);
            done("keep", x.keep(0, 2, 0, 1), 0);
            x.run(behind, 1);
            done("trade", x.trade(2), 0);
            x.link(3, 2);
            x.run(behind, 1);
            done("follow", x.follow(3), 0);
        }
    }

    private static void ownNone() {
        start("4 own; 0: none", THROWS, LEAF);
        due("ahead of any", x.own(), 0);
        refused("NOTHING is thrown", x.run(0, 1), 1);
        due("NOTHING is no OWN", x.own(), 0);
        x.become(0, 1);
        due("not yet thrown", x.own(), 0);
        done("passed over", x.either(0, 1, 2), 0);
        due("not told", x.own(), 0);
        refused("told", x.run(0, 1), 7);
        due("told", x.own(), 1);
    }

    private static void ownToldAsOutcome() {
        start("4 the latest OWN that a call told as its OUTCOME", THROWS, THROWS, LINKED, SHARE, LEAF);
        x.become(0, 10);
        x.become(1, -20);
        x.link(2, 1);
        x.run(0, 1);
        due("run", x.own(), 10);
        refused("OWN passed over, then SPENT", x.either(1, 4, 1), 9);
        due("stays", x.own(), 10);
        refused("OWN passed over, then ZERO", x.either(2, 3, 9), 6);
        due("stays", x.own(), 10);
        refused("OWN, then OWN", x.either(0, 2, 9), 7);
        due("that of the other", x.own(), -20);
        x.become(1, 33);
        due("V with which it was thrown", x.own(), -20);
        x.link(4, 0);
        refused("gather", x.gather(4, 1), 7);
        due("gather", x.own(), 10);
        refused("keep", x.keep(2, 4, 0, 2), 7);
        due("keep", x.own(), 33);
        refused("SPENT ahead of it", x.run(2, 1), 9);
        outside("OUTSIDE", x.run(0, 101));
        done("done", x.run(4, 1), 0);
        due("stays", x.own(), 33);
    }

    private static void begunAheadOfAny() {
        start("5 0 ahead of any", LEAF);
        due("at first", x.begun(), 0);
        x.hold(0, INTS, 1);
        x.at(0, 0);
        x.follow(0);
        outside("OUTSIDE begins none", x.run(0, 0));
        outside("OUTSIDE begins none", x.run(1, 1));
        due("still", x.begun(), 0);
        x.run(0, 1);
        due("then", x.begun(), 1);
    }

    private static void begunByTheLatestThatMay() {
        start("5 by the latest call that may begin one", LEAF, LINKED, LINKED, SHARE);
        x.link(1, 0);
        x.link(2, 1);
        x.hold(0, INTS, 1);
        x.run(2, 100);
        due("run", x.begun(), 3);
        x.size(0);
        x.follow(0);
        x.trade(1);
        x.move(0, 0, 0, 0, 1);
        x.hold(0, INTS, 1);
        outside("run", x.run(4, 1));
        outside("either", x.either(0, 4, 1));
        outside("gather", x.gather(0, 101));
        outside("keep", x.keep(0, 4, 0, 1));
        due("stays", x.begun(), 3);
        x.gather(2, 100);
        due("gather", x.begun(), 2);
        x.either(3, 1, 100);
        due("either, both", x.begun(), 3);
        x.either(1, 3, 100);
        due("either, the first alone", x.begun(), 2);
        x.keep(0, 0, 5, 100);
        due("keep, INDEX afterwards", x.begun(), 1);
        x.gather(0, 100);
        due("gather of NOTHING may, but began none", x.begun(), 0);
    }

    private static void begunAtTheLimit() {
        start("5 at the limit", LINKED, SHARE);
        x.link(0, 0);
        for (int limit : new int[] {1, 2, 29, 30, 31, 99, 100}) {
            x.run(0, limit);
            due("run with " + limit, x.begun(), Math.min(limit, 30));
            x.either(1, 0, limit);
            due("either with " + limit, x.begun(), Math.min(limit, 31));
        }
    }

    private static void deepWhenDone() {
        start("6 0 if it told 0", SHARE, LINKED, LEAF);
        due("at first", x.deep(), 0);
        x.link(1, 0);
        x.run(1, 2);
        due("above 0", x.deep(), 2);
        x.hold(0, INTS, 1);
        x.size(0);
        outside("OUTSIDE", x.run(1, 101));
        due("stays, for calls that begin none", x.deep(), 2);
        done("done", x.run(2, 1), 0);
        due("done", x.deep(), 0);
        x.run(1, 2);
        done("either done by the other", x.either(1, 2, 3), 0);
        due("either done by the other", x.deep(), 0);
        x.run(1, 2);
        x.link(2, 2);
        done("gather done", x.gather(2, 1), 0);
        due("gather done", x.deep(), 0);
        x.run(1, 2);
        done("keep done", x.keep(2, 0, 0, 1), 0);
        due("keep done", x.deep(), 0);
    }

    private static void deepWhereItArose() {
        start("6 (with that in which it did)", SHARE, LINKED, FIRST, LEAF);
        x.link(1, 0);
        x.hold(2, THINGS, 1);
        x.set(2, 0, 1);
        x.run(0, 9);
        due("1", x.deep(), 1);
        x.run(1, 9);
        due("2", x.deep(), 2);
        x.run(2, 9);
        due("3", x.deep(), 3);
        x.run(2, 2);
        due("SPENT in the second", x.deep(), 2);
        x.run(2, 1);
        due("SPENT in the first", x.deep(), 1);
        x.link(1, NONE);
        x.run(2, 9);
        due("NOTHING in the second", x.deep(), 2);
        x.set(2, 0, NONE);
        x.run(2, 9);
        due("NOTHING in the first", x.deep(), 1);
        x.link(3, 2);
        x.gather(3, 9);
        due("gather, in the first", x.deep(), 1);
        x.either(2, 0, 9);
        due("either, that of the other", x.deep(), 1);
    }

    private static void deepOutsideAnyNumber() {
        start("6 when no NUMBER is open", SHARE, LEAF, LINKED);
        x.run(0, 1);
        refused("gather of NOTHING", x.gather(1, 1), 1);
        due("gather of NOTHING", x.deep(), 0);
        x.run(0, 1);
        refused("keep in NOTHING", x.keep(1, 1, 0, 1), 1);
        due("keep in NOTHING", x.deep(), 0);
        x.hold(1, LONGS, 1);
        x.run(0, 1);
        refused("keep in longs", x.keep(1, 1, 0, 1), 2);
        due("keep in longs", x.deep(), 0);
        x.hold(1, INTS, 1);
        x.run(0, 1);
        refused("keep beyond", x.keep(1, 1, 1, 1), 3);
        due("keep beyond", x.deep(), 0);
        x.run(0, 1);
        refused("either, none left for the other", x.either(0, 1, 1), 9);
        due("either, none left for the other", x.deep(), 0);
    }

    private static void toldFrom0To9() {
        start("7 an OUTCOME (0 to 9)", LEAF);
        for (int outcome : new int[] {LOW, -2, -1, 10, 11, HIGH}) {
            outside("told of " + outcome, x.told(outcome));
        }
        due("told 0", x.told(0), 0);
        due("told 9", x.told(9), 0);
        x.run(0, 1);
        due("told 0", x.told(0), 1);
        x.link(0, 0);
        x.thing(LINKED, 0);
        x.link(1, 0);
        x.run(1, 1);
        due("told 9", x.told(9), 1);
        due("outcome", x.outcome(), 9);
    }

    private static void toldOncePerCall() {
        start("7 How many calls", SHARE, LEAF);
        done("either", x.either(0, 1, 2), 0);
        due("what was passed over is not told", x.told(6), 0);
        due("told 0", x.told(0), 1);
        refused("either", x.either(0, 0, 2), 6);
        due("once, though it arose twice", x.told(6), 1);
        refused("keep", x.keep(1, 1, 0, 1), 1);
        due("keep told 1 alone", x.told(0), 1);
        due("keep told 1", x.told(1), 1);
        outside("OUTSIDE", x.run(2, 1));
        int sum = 0;
        for (int outcome = 0; outcome <= 9; outcome++) {
            sum += x.told(outcome);
        }
        due("all", sum, 3);
    }

    private static void clsOfAThing() {
        start("8 cls", SUM, LEAF);
        for (int t : NO_THINGS) {
            outside("cls of " + t, x.cls(t));
        }
        due("cls of 0", x.cls(0), SUM);
        due("cls of 1", x.cls(1), LEAF);
    }

    private static void isOfAClass() {
        start("9 is", THRICE, SUM);
        for (int t : NO_THINGS) {
            outside("is of " + t, x.is(t, 0));
        }
        for (int cls : new int[] {LOW, -2, -1, 8, 9, HIGH}) {
            outside("is a " + cls, x.is(0, cls));
            outside("is a " + cls, x.is(1, cls));
        }
        due("THRICE is a LEAF", x.is(0, 0), 1);
        due("THRICE is no SHARE", x.is(0, 3), 0);
        due("SUM is a SUM", x.is(1, 7), 1);
        due("SUM is no FIRST", x.is(1, 6), 0);
        due("SUM is no LEAF", x.is(1, 0), 0);
    }

    private static void vAndBecome() {
        start("10 v, 11 become", LEAF, LEAF);
        for (int t : NO_THINGS) {
            outside("v of " + t, x.v(t));
            outside("become of " + t, x.become(t, 9));
        }
        due("v as before", x.v(0), 0);
        due("v as before", x.v(1), 0);
        int was = 0;
        for (int v : new int[] {HIGH, LOW, -1, FULL, OUTSIDE, 0}) {
            due("become", x.become(1, v), was);
            due("v", x.v(1), v);
            due("v of the other", x.v(0), 0);
            was = v;
        }
        due("told", x.told(0), 0);
    }

    private static void linkAndLinked() {
        start("12 link, 13 linked", LEAF, LEAF);
        for (int t : NO_THINGS) {
            outside("link of " + t, x.link(t, 0));
            outside("link of " + t + " to NOTHING", x.link(t, NONE));
            outside("linked of " + t, x.linked(t));
            if (t != NONE) {
                outside("link to " + t, x.link(0, t));
            }
        }
        due("linked as before", x.linked(0), NONE);
        due("linked as before", x.linked(1), NONE);
        due("to the first", x.link(1, 0), NONE);
        due("to the latest", x.link(1, 1), 0);
        due("to NOTHING", x.link(1, NONE), 1);
        due("of the other", x.linked(0), NONE);
        due("told", x.told(0) + x.told(1), 0);
    }

    private static void followOfNothing() {
        start("14 follow", LEAF, LEAF);
        for (int t : NO_THINGS) {
            outside("follow of " + t, x.follow(t));
        }
        due("told", x.told(1), 0);
        refused("LINK is NOTHING", x.follow(0), 1);
        x.link(0, 1);
        done("its LINK's LINK is NOTHING", x.follow(0), NONE);
        due("linked", x.linked(0), NONE);
        refused("and is from then on", x.follow(0), 1);
        x.link(0, 1);
        x.link(1, 0);
        done("back to itself", x.follow(0), 0);
        done("itself for good", x.follow(0), 0);
        due("linked of the other", x.linked(1), 0);
    }

    private static void tradeWithItself() {
        start("15 trade", LEAF, LEAF);
        for (int t : NO_THINGS) {
            outside("trade of " + t, x.trade(t));
        }
        x.become(0, HIGH);
        x.become(1, LOW);
        refused("LINK is NOTHING", x.trade(0), 1);
        due("v as before", x.v(0), HIGH);
        x.link(0, 0);
        done("with itself", x.trade(0), HIGH);
        due("v as before", x.v(0), HIGH);
        x.link(0, 1);
        done("with another", x.trade(0), LOW);
        due("v", x.v(0), LOW);
        due("v of the other", x.v(1), HIGH);
        due("linked as before", x.linked(0), 1);
    }

    private static void holdOf12() {
        start("16 n items (12 at most): n. OUTCOME 4", LEAF, LEAF);
        for (int t : NO_THINGS) {
            outside("hold of " + t, x.hold(t, INTS, 1));
            outside("hold of " + t + ", below 0", x.hold(t, INTS, -1));
        }
        done("12", x.hold(0, INTS, 12), 12);
        x.lay(0, 11, 4);
        outside("13", x.hold(0, INTS, 13));
        outside("the highest", x.hold(0, LEAVES, HIGH));
        due("outcome stays", x.outcome(), 0);
        due("holds as before", x.holds(0), INTS);
        due("item as before", x.at(0, 11), 4);
        refused("-1", x.hold(0, LEAVES, -1), 4);
        due("item as before", x.at(0, 11), 4);
        refused("-1 by one that holds NOTHING", x.hold(1, LEAVES, -1), 4);
        due("holds NOTHING as before", x.holds(1), NONE);
        done("0", x.hold(0, LEAVES, 0), 0);
        due("holds", x.holds(0), LEAVES);
    }

    private static void holdNothing() {
        start("16 (NONE: NOTHING): (0)", LEAF, LEAF);
        for (int n : new int[] {LOW, -1, 0, 1, 12}) {
            x.hold(0, LONGS, 3);
            x.share(1, 0);
            done("NOTHING, " + n, x.hold(0, NONE, n), 0);
            due("holds", x.holds(0), NONE);
            due("the other holds it still", x.holds(1), LONGS);
        }
        x.hold(0, LONGS, 3);
        outside("NOTHING, 13", x.hold(0, NONE, 13));
        outside("NOTHING, the highest", x.hold(0, NONE, HIGH));
        due("holds as before", x.holds(0), LONGS);
        due("told 4", x.told(4), 0);
    }

    private static void holdIsNew() {
        start("16 a new ROW", LEAF, LEAF);
        fill(0, 3);
        x.share(1, 0);
        done("one of the same sort and size", x.hold(0, INTS, 3), 3);
        items("the new one", 0, 0, 0, 0);
        items("the one that the other holds", 1, 1, 2, 3);
        x.lay(0, 0, 50);
        items("the one that the other holds", 1, 1, 2, 3);
    }

    private static void shareNothing() {
        start("17 share; NONE", LEAF, LEAF);
        for (int t : NO_THINGS) {
            outside("share of " + t, x.share(t, 0));
            outside("share with " + t, x.share(0, t));
        }
        due("NOTHING", x.share(0, 1), NONE);
        fill(0, 2);
        due("with itself", x.share(0, 0), INTS);
        items("with itself", 0, 1, 2);
        outside("with NONE", x.share(0, NONE));
        due("holds as before", x.holds(0), INTS);
        due("NOTHING for a row", x.share(0, 1), NONE);
        due("holds", x.holds(0), NONE);
        int told = x.told(0);
        x.hold(1, LEAVES, 0);
        due("a row of none", x.share(0, 1), LEAVES);
        due("holds", x.holds(0), LEAVES);
        due("outcomes told", x.told(0), told + 1);
    }

    private static void holdsAndSize() {
        start("18 holds, 19 size", LEAF, LEAF);
        for (int t : NO_THINGS) {
            outside("holds of " + t, x.holds(t));
            outside("size of " + t, x.size(t));
        }
        due("told 1", x.told(1), 0);
        due("holds NOTHING", x.holds(0), NONE);
        refused("size of NOTHING", x.size(0), 1);
        for (int sort = 0; sort <= 3; sort++) {
            x.hold(0, sort, 0);
            due("holds none", x.holds(0), sort);
            done("size of none", x.size(0), 0);
            x.hold(0, sort, 12);
            due("holds 12", x.holds(0), sort);
            done("size of 12", x.size(0), 12);
        }
    }

    private static void atTheEnds() {
        start("20 at", LEAF, SHARE);
        for (int t : NO_THINGS) {
            outside("at of " + t, x.at(t, 0));
        }
        due("told 1", x.told(1), 0);
        refused("of NOTHING, ahead of no such item", x.at(0, 5), 1);
        x.hold(0, LONGS, 12);
        x.lay(0, 0, Long.MIN_VALUE);
        x.lay(0, 11, Long.MAX_VALUE);
        done("item 0", x.at(0, 0), Long.MIN_VALUE);
        done("item 11", x.at(0, 11), Long.MAX_VALUE);
        refused("item 12", x.at(0, 12), 3);
        refused("item -1", x.at(0, -1), 3);
        x.hold(0, THINGS, 2);
        x.set(0, 0, 0);
        done("THING 0", x.at(0, 0), 0);
        done("NOTHING", x.at(0, 1), NONE);
        x.hold(0, INTS, 0);
        refused("item 0 of none", x.at(0, 0), 3);
    }

    private static void layLowest32Bits() {
        start("21 (of ints its lowest 32 bits)", LEAF);
        for (int t : NO_THINGS) {
            outside("lay of " + t, x.lay(t, 0, 0));
        }
        long[] items = {HIGH, LOW, 1L << 31, -(1L << 31) - 1, (1L << 32) - 1, 1L << 32, Long.MAX_VALUE,
            Long.MIN_VALUE, 0};
        int[] kept = {HIGH, LOW, LOW, HIGH, -1, 0, -1, 0, 0};
        x.hold(0, INTS, 12);
        long was = 0;
        for (int i = 0; i < items.length; i++) {
            done("int " + items[i], x.lay(0, 11, items[i]), was);
            due("kept", x.at(0, 11), kept[i]);
            was = kept[i];
        }
        x.hold(0, LONGS, 12);
        was = 0;
        for (long item : items) {
            done("long " + item, x.lay(0, 11, item), was);
            due("kept", x.at(0, 11), item);
            was = item;
        }
        refused("item 12", x.lay(0, 12, 1), 3);
        refused("item -1", x.lay(0, -1, 1), 3);
        due("item 0 as before", x.at(0, 0), 0);
    }

    private static void setNothing() {
        start("22 becomes a THING, or NOTHING (NONE)", LEAF, TWICE);
        for (int t : NO_THINGS) {
            outside("set of " + t, x.set(t, 0, 0));
            if (t != NONE) {
                outside("set to " + t, x.set(0, 0, t));
            }
        }
        due("told 1", x.told(1), 0);
        for (int sort = THINGS; sort <= LEAVES; sort++) {
            x.hold(0, sort, 12);
            done("NOTHING for NOTHING", x.set(0, 11, NONE), NONE);
            done("THING 0", x.set(0, 11, 0), NONE);
            done("THING 1", x.set(0, 11, 1), 0);
            outside("THING 2", x.set(0, 11, 2));
            outside("THING -2", x.set(0, 11, -2));
            outside("THING 2 as item 12", x.set(0, 12, 2));
            refused("NOTHING as item 12", x.set(0, 12, NONE), 3);
            refused("NOTHING as item -1", x.set(0, -1, NONE), 3);
            done("as before", x.at(0, 11), 1);
            done("NOTHING", x.set(0, 11, NONE), 1);
            done("NOTHING", x.at(0, 11), NONE);
        }
    }

    private static void moveNone() {
        start("23 move of 0 items", LEAF, LEAF);
        fill(0, 3);
        fill(1, 2);
        done("from the ends on", x.move(0, 3, 1, 2, 0), 0);
        refused("from beyond the end", x.move(0, 4, 1, 2, 0), 3);
        refused("to beyond the end", x.move(0, 3, 1, 3, 0), 3);
        refused("from below 0", x.move(0, -1, 1, 0, 0), 3);
        refused("to below 0", x.move(0, 0, 1, -1, 0), 3);
        items("as before", 1, 1, 2);
        x.hold(0, INTS, 0);
        done("out of none", x.move(0, 0, 1, 0, 0), 0);
        done("into none", x.move(1, 2, 0, 0, 0), 0);
        done("none to itself", x.move(0, 0, 0, 0, 0), 0);
    }

    private static void moveWhole() {
        for (int sort = 0; sort <= 3; sort++) {
            start("23 move of 12 items, sort " + sort, LEAF, LEAF);
            x.hold(0, sort, 12);
            x.hold(1, sort, 12);
            for (int k = 0; k < 12; k++) {
                x.lay(0, k, (long) k << 40 | k);
                x.set(0, k, k % 2);
            }
            refused("13", x.move(0, 0, 1, 0, 13), 3);
            refused("12 from 1 on", x.move(0, 1, 1, 0, 12), 3);
            refused("12 to 1 on", x.move(0, 0, 1, 1, 12), 3);
            due("nothing has gone", x.at(1, 11), sort >= THINGS ? NONE : 0);
            done("12", x.move(0, 0, 1, 0, 12), 12);
            for (int k = 0; k < 12; k++) {
                due("item " + k, x.at(1, k), x.at(0, k));
                due("item " + k, x.at(1, k), sort >= THINGS ? k % 2 : sort == LONGS ? (long) k << 40 | k : k);
            }
            done("the last into the first", x.move(0, 11, 1, 0, 1), 1);
            due("item 0", x.at(1, 0), x.at(0, 11));
        }
    }

    private static void moveOverItself() {
        start("23 as the machine copies", LEAF, LEAF);
        fill(0, 5);
        x.share(1, 0);
        done("on by 1", x.move(0, 0, 0, 1, 4), 4);
        items("on by 1", 0, 1, 1, 2, 3, 4);
        done("back by 1", x.move(0, 1, 1, 0, 4), 4);
        items("back by 1", 0, 1, 2, 3, 4, 4);
        done("on by 2, by another that holds it", x.move(1, 0, 0, 2, 3), 3);
        items("on by 2", 1, 1, 2, 1, 2, 3);
        done("to where it is", x.move(0, 0, 1, 0, 5), 5);
        items("to where it is", 0, 1, 2, 1, 2, 3);
        x.hold(0, LEAVES, 3);
        x.set(0, 0, 0);
        x.set(0, 1, 1);
        done("LEAVES on by 1", x.move(0, 0, 0, 1, 2), 2);
        items("LEAVES on by 1", 0, 0, 0, 1);
    }

    /** The one that is no LEAF stands at each of the 12 places in turn. */
    private static void moveAheadOfNoLeaf() {
        for (int place = 0; place < 12; place++) {
            start("23 (those ahead of it have gone), " + place, LEAF, LEAF, TWICE, SHARE);
            x.hold(0, THINGS, 12);
            x.hold(1, LEAVES, 12);
            for (int k = 0; k < 12; k++) {
                x.set(0, k, k == place ? 3 : k % 3 == 1 ? NONE : 2);
                x.set(1, k, 1);
            }
            done("all ahead of it", x.move(0, 0, 1, 0, place), place);
            for (int k = 0; k < 12; k++) {
                x.set(1, k, 1);
            }
            refused("with it", x.move(0, 0, 1, 0, 12), 5);
            for (int k = 0; k < 12; k++) {
                due("item " + k, x.at(1, k), k >= place ? 1 : k % 3 == 1 ? NONE : 2);
            }
            done("all behind it", x.move(0, place + 1, 1, 0, 11 - place), 11 - place);
            due("it is where it was", x.at(0, place), 3);
        }
    }

    private static void moveNoLeafAmongThings() {
        start("23 5: from THINGS into LEAVES alone", LEAF, LEAF, SHARE);
        x.hold(0, THINGS, 3);
        x.hold(1, THINGS, 3);
        x.set(0, 0, 0);
        x.set(0, 1, 2);
        done("THINGS into THINGS", x.move(0, 0, 1, 0, 3), 3);
        items("THINGS into THINGS", 1, 0, 2, NONE);
        done("within THINGS", x.move(0, 0, 0, 1, 2), 2);
        items("within THINGS", 0, 0, 0, 2);
        x.hold(0, LEAVES, 2);
        x.set(0, 1, 1);
        done("LEAVES into THINGS", x.move(0, 0, 1, 1, 2), 2);
        items("LEAVES into THINGS", 1, 0, NONE, 1);
    }

    private static void moveOrderOfRefusals() {
        start("23 OUTCOMES 1; 5; 3; 5", LEAF, LEAF, SHARE, LEAF);
        for (int t : new int[] {LOW, -1, 4, HIGH}) {
            outside("from " + t, x.move(t, 0, 0, 0, 0));
            outside("to " + t, x.move(0, 0, t, 0, 0));
        }
        x.hold(0, INTS, 1);
        refused("1 ahead of 3", x.move(0, 9, 3, 9, 9), 1);
        refused("1 ahead of 3", x.move(3, -1, 0, -1, -1), 1);
        x.hold(1, LONGS, 1);
        refused("5 of the rows ahead of 3", x.move(0, 9, 1, 9, 9), 5);
        x.hold(0, THINGS, 2);
        x.hold(1, LEAVES, 2);
        x.set(0, 0, 2);
        refused("3 ahead of 5 of an item", x.move(0, 0, 1, 0, 3), 3);
        refused("3 ahead of 5 of an item", x.move(0, 0, 1, 1, 2), 3);
        refused("5 of an item", x.move(0, 0, 1, 0, 2), 5);
        items("none has gone", 1, NONE, NONE);
    }

    private static void runLimit() {
        start("24 at most so many (1 to 100)", LEAF, LEAF);
        x.become(0, 8);
        for (int limit : new int[] {LOW, -1, 0, 101, 102, HIGH}) {
            outside("limit " + limit, x.run(0, limit));
        }
        for (int t : NO_THINGS) {
            outside("run of " + t, x.run(t, 1));
        }
        due("told", x.told(0), 0);
        due("begun", x.begun(), 0);
        done("limit 1", x.run(0, 1), 8);
        done("limit 100", x.run(0, 100), 8);
        due("told", x.told(0), 2);
    }

    private static void eitherPassesOver1To7() {
        start("25 if that has an OUTCOME of 1 to 7", LEAF, LINKED, SUM, FIRST, SHARE, THROWS);
        x.become(0, 44);
        x.become(5, 7);
        x.hold(2, LONGS, 1);
        x.hold(3, INTS, 0);
        int[] outcomes = {0, 1, 2, 3, 6, 7};
        for (int t = 1; t <= 5; t++) {
            refused("by itself", x.run(t, 1), outcomes[t]);
            done("passed over", x.either(t, 0, 2), 44);
            work("passed over", 2, 0);
            refused("the other's", x.either(4, t, 2), outcomes[t]);
            work("the other's", 2, 1);
            done("not asked for", x.either(0, t, 1), 44);
            work("not asked for", 1, 0);
        }
        due("own, told by the other", x.own(), 7);
    }

    private static void eitherLeavesOf8And9() {
        start("25 else as run()", LEAF, LINKED);
        x.become(0, 44);
        x.link(1, 1);
        refused("DEEP", x.either(1, 0, 100), 8);
        work("DEEP", 30, 30);
        refused("DEEP with 31", x.either(1, 0, 31), 8);
        refused("SPENT with 30", x.either(1, 0, 30), 9);
        work("SPENT with 30", 30, 30);
        refused("SPENT with 1", x.either(1, 0, 1), 9);
        work("SPENT with 1", 1, 1);
    }

    private static void eitherWhatIsLeft() {
        start("25 with what is left of the limit", LEAF, SHARE, LINKED, LINKED, LINKED);
        x.link(2, 1);
        x.link(3, 0);
        x.link(4, 4);
        refused("none left", x.either(2, 3, 2), 9);
        work("none left", 2, 0);
        refused("one left", x.either(2, 3, 3), 9);
        work("one left", 3, 1);
        done("two left", x.either(2, 3, 4), 1);
        work("two left", 4, 0);
        refused("30 left", x.either(1, 4, 31), 9);
        work("30 left", 31, 30);
        refused("31 left", x.either(1, 4, 32), 8);
        work("31 left", 31, 30);
        for (int limit : new int[] {LOW, 0, 101, HIGH}) {
            outside("limit " + limit, x.either(0, 0, limit));
        }
        for (int t : new int[] {LOW, -1, 5, HIGH}) {
            outside("either of " + t, x.either(t, 0, 1));
            outside("other of " + t, x.either(0, t, 1));
        }
        work("OUTSIDE", 31, 30);
        done("the same twice", x.either(0, 0, 1), 0);
        refused("the same twice", x.either(1, 1, 100), 6);
        work("the same twice", 2, 1);
    }

    private static void gatherOfItself() {
        start("26 gather", LEAF, TWICE, LINKED, SUM);
        refused("of NOTHING", x.gather(0, 100), 1);
        work("of NOTHING", 0, 0);
        x.link(0, 0);
        x.become(0, 0x40000000);
        done("of itself, going round", x.gather(0, 1), LOW);
        due("v", x.v(0), LOW);
        x.link(1, 1);
        x.become(1, 5);
        done("TWICE of itself", x.gather(1, 1), 15);
        due("v", x.v(1), 15);
        x.link(2, 0);
        x.link(0, 2);
        x.become(0, HIGH);
        done("of what is linked to it", x.gather(0, 2), -1);
        due("v", x.v(0), -1);
        x.link(3, 3);
        x.hold(3, INTS, 0);
        done("SUM of none", x.gather(3, 1), 0);
        x.hold(3, THINGS, 0);
        refused("SUM of no THINGS", x.gather(3, 1), 2);
    }

    private static void gatherLimit() {
        start("26 limit", LEAF, LINKED, LEAF);
        x.link(0, 1);
        x.link(1, 2);
        x.become(2, 4);
        for (int limit : new int[] {LOW, 0, 101, HIGH}) {
            outside("limit " + limit, x.gather(0, limit));
            outside("limit " + limit + " of NOTHING", x.gather(2, limit));
        }
        for (int t : new int[] {LOW, -1, 3, HIGH}) {
            outside("gather of " + t, x.gather(t, 1));
        }
        due("told 1", x.told(1), 0);
        refused("limit 1", x.gather(0, 1), 9);
        due("v as before", x.v(0), 0);
        done("limit 2", x.gather(0, 2), 5);
        done("limit 100", x.gather(0, 100), 10);
        due("v", x.v(0), 10);
    }

    private static void keepWorkedOutFirst() {
        start("27 (worked out first) OUTCOMES as run(), then 1, 2, 3", SHARE, LEAF, LEAF);
        refused("6 ahead of 1", x.keep(0, 2, 0, 1), 6);
        refused("1", x.keep(1, 2, -1, 1), 1);
        work("1", 1, 0);
        x.hold(2, LONGS, 1);
        refused("6 ahead of 2", x.keep(0, 2, 5, 1), 6);
        refused("2 ahead of 3", x.keep(1, 2, 5, 1), 2);
        x.hold(2, INTS, 1);
        refused("6 ahead of 3", x.keep(0, 2, 1, 1), 6);
        refused("3", x.keep(1, 2, 1, 1), 3);
        x.become(1, HIGH);
        done("item 0", x.keep(1, 2, 0, 1), HIGH);
        due("item 0", x.at(2, 0), HIGH);
        x.become(1, LOW);
        done("item 0", x.keep(1, 2, 0, 1), LOW);
        due("item 0", x.at(2, 0), LOW);
        refused("6", x.keep(0, 2, 0, 1), 6);
        due("item 0 as before", x.at(2, 0), LOW);
    }

    private static void keepInWhatItSums() {
        start("27 laid behind its being worked out", SUM, FIRST, LEAF);
        fill(0, 12);
        x.share(1, 0);
        done("the sum as item 11", x.keep(0, 0, 11, 1), 78);
        due("item 11", x.at(0, 11), 78);
        done("the sum then as item 0", x.keep(0, 1, 0, 1), 144);
        done("the first one then as item 1", x.keep(1, 1, 1, 1), 144);
        due("item 1", x.at(0, 1), 144);
        refused("item 12", x.keep(0, 0, 12, 1), 3);
        refused("item -1", x.keep(0, 0, -1, 1), 3);
        x.hold(2, INTS, 0);
        refused("item 0 of none", x.keep(0, 2, 0, 1), 3);
    }

    private static void keepLimit() {
        start("27 limit", LINKED, LEAF);
        x.link(0, 1);
        x.hold(1, INTS, 1);
        for (int limit : new int[] {LOW, 0, 101, HIGH}) {
            outside("limit " + limit, x.keep(0, 1, 0, limit));
            outside("limit " + limit + ", no such item", x.keep(0, 1, 1, limit));
        }
        for (int t : NO_THINGS) {
            outside("keep of " + t, x.keep(t, 1, 0, 1));
            outside("keep in " + t, x.keep(0, t, 0, 1));
        }
        due("told 0", x.told(0), 1);
        refused("limit 1", x.keep(0, 1, 0, 1), 9);
        due("item as before", x.at(1, 0), 0);
        done("limit 2", x.keep(0, 1, 0, 2), 1);
        due("item", x.at(1, 0), 1);
        done("limit 100", x.keep(0, 1, 0, 100), 1);
    }

    private static void thingsFrom0To40() {
        start("28 How many THINGS");
        for (int n = 0; n < 40; n++) {
            due("things", x.things(), n);
            x.thing(8, 0);
            due("things", x.things(), n);
            x.thing(n % 8, 0);
        }
        due("things", x.things(), 40);
        due("FULL", x.thing(0, 0), FULL);
        due("things", x.things(), 40);
        due("told", x.told(0), 0);
    }
}
