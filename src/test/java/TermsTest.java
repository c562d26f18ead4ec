/** The sentences under "Terms" that name a boundary: just inside, just outside, and what shows afterwards. */
public final class TermsTest extends Cases {
    public static void main(String[] args) {
        mostCalls();
        mostThings();
        vGoesRound();
        linkOfItselfOrNothing();
        rowNothingAtFirst();
        sorts();
        itemsOfRow();
        itemsAtFirst();
        sameRow();
        leafNumber();
        twiceNumber();
        thriceNumber();
        shareNumber();
        linkedNumber();
        throwsNumber();
        firstNumberOfNumbers();
        firstNumberOfThings();
        sumNumber();
        begunWithin();
        nothing();
        cast();
        index();
        size();
        storeOfLeaves();
        storeOfRows();
        zero();
        ownThrown();
        deepWithin30();
        spent();
        spentAheadOfDeep();
        numbersOfItemsAreNeverOutside();
        Due.end();
    }

    private static void mostCalls() {
        start("at most 512 calls", SUM);
        for (int call = 2; call < 510; call++) {
            due("hold, call " + call, x.hold(0, call % 4, 12), 12);
        }
        due("call 510", x.run(0, 100), 0);
        due("call 511", x.told(0), 508);
        due("call 512", x.told(2), 1);
    }

    private static void mostThings() {
        start("THINGS 0, 1, .. (40 at most)");
        for (int t = 0; t < 39; t++) {
            due("thing", x.thing(LINKED, t), t);
        }
        outside("thing 39 ahead of its being made", x.v(39));
        outside("link to it", x.link(38, 39));
        due("the 40th", x.thing(LEAF, 500), 39);
        due("the 41st", x.thing(LEAF, 600), FULL);
        due("the 42nd", x.thing(SUM, 700), FULL);
        due("things", x.things(), 40);
        due("v of the 40th", x.v(39), 500);
        due("cls of the 40th", x.cls(39), LEAF);
        outside("v of the 41st", x.v(40));
        due("link to the 40th", x.link(38, 39), NONE);
        outside("link to the 41st", x.link(38, 40));
        done("run by the 40th", x.run(38, 2), 501);
        due("outcomes told", x.told(0), 1);
    }

    private static void vGoesRound() {
        start("a V (an int, going round)", LEAF, LEAF);
        x.link(0, 1);
        x.become(1, 1);
        x.become(0, HIGH - 1);
        done("up to the highest", x.gather(0, 1), HIGH);
        done("beyond the highest", x.gather(0, 1), LOW);
        due("v", x.v(0), LOW);
        x.become(1, -1);
        done("below the lowest", x.gather(0, 1), HIGH);
        due("v", x.v(0), HIGH);
        x.become(1, HIGH);
        done("highest and highest", x.gather(0, 1), -2);
        x.become(0, LOW);
        x.become(1, LOW);
        done("lowest and lowest", x.gather(0, 1), 0);
        due("v", x.v(0), 0);
        due("v of the LINK", x.v(1), LOW);
        due("thing of the lowest", x.v(x.thing(LEAF, LOW)), LOW);
        due("thing of the highest", x.v(x.thing(LEAF, HIGH)), HIGH);
    }

    private static void linkOfItselfOrNothing() {
        start("a LINK (a THING, itself too, or NOTHING, as at first)", LEAF, LEAF);
        due("at first", x.linked(0), NONE);
        due("at first, the latest", x.linked(1), NONE);
        due("itself", x.link(1, 1), NONE);
        due("itself, linked", x.linked(1), 1);
        due("NOTHING", x.link(1, NONE), 1);
        due("NOTHING, linked", x.linked(1), NONE);
        due("NOTHING again", x.link(1, NONE), NONE);
        outside("below NOTHING", x.link(1, -2));
        outside("beyond the latest", x.link(1, 2));
        due("linked as before", x.linked(1), NONE);
    }

    private static void rowNothingAtFirst() {
        start("may HOLD a ROW (NOTHING at first)", LEAF, TWICE, THRICE, SHARE, LINKED, THROWS, FIRST, SUM);
        for (int t = 0; t < 8; t++) {
            due("holds at first", x.holds(t), NONE);
            refused("size at first", x.size(t), 1);
            done("any class may hold one", x.hold(t, t % 4, 1), 1);
            due("holds", x.holds(t), t % 4);
        }
    }

    private static void sorts() {
        start("of SORT 0 ints, 1 longs, 2 THINGS, 3 LEAVES", LEAF);
        outside("sort 4", x.hold(0, 4, 1));
        outside("sort -2", x.hold(0, -2, 1));
        due("holds", x.holds(0), NONE);
        due("outcomes told", x.told(0), 0);
        for (int sort = 0; sort <= 3; sort++) {
            done("sort " + sort, x.hold(0, sort, 1), 1);
            due("holds", x.holds(0), sort);
        }
        outside("sort 4", x.hold(0, 4, 1));
        outside("sort -2", x.hold(0, -2, 1));
        due("holds", x.holds(0), LEAVES);
        done("sort -1", x.hold(0, NONE, 1), 0);
        due("holds", x.holds(0), NONE);
    }

    private static void itemsOfRow() {
        for (int sort = 0; sort <= 3; sort++) {
            start("with 0 to 12 items from 0 on, sort " + sort, LEAF);
            for (int n = 0; n <= 12; n++) {
                done("n", x.hold(0, sort, n), n);
                done("size", x.size(0), n);
                if (n > 0) {
                    done("the first", x.at(0, 0), sort >= THINGS ? NONE : 0);
                    done("the last", x.at(0, n - 1), sort >= THINGS ? NONE : 0);
                }
                refused("ahead of the first", x.at(0, -1), 3);
                refused("behind the last", x.at(0, n), 3);
            }
            outside("13", x.hold(0, sort, 13));
            due("outcome", x.outcome(), 3);
            refused("-1", x.hold(0, sort, -1), 4);
            done("size as before", x.size(0), 12);
        }
    }

    private static void itemsAtFirst() {
        for (int sort = 0; sort <= 3; sort++) {
            start("(at first 0, NOTHING), sort " + sort, LEAF);
            long first = sort >= THINGS ? NONE : 0;
            for (int round = 0; round < 2; round++) {
                x.hold(0, sort, 12);
                for (int k = 0; k < 12; k++) {
                    done("item " + k, x.at(0, k), first);
                    x.lay(0, k, 7);
                    x.set(0, k, 0);
                }
            }
        }
    }

    private static void sameRow() {
        start("Several THINGS may HOLD the same ROW");
        for (int t = 0; t < 40; t++) {
            x.thing(SUM, 0);
        }
        x.hold(39, INTS, 12);
        for (int t = 0; t < 39; t++) {
            due("share", x.share(t, t == 0 ? 39 : t - 1), INTS);
        }
        x.lay(0, 11, 5);
        x.lay(20, 0, 6);
        for (int t = 0; t < 40; t++) {
            due("item 11", x.at(t, 11), 5);
            due("run", x.run(t, 1), 11);
        }
        x.hold(20, INTS, 3);
        due("the others keep theirs", x.at(19, 0), 6);
        due("the others keep theirs", x.at(21, 0), 6);
        due("a new one", x.at(20, 0), 0);
    }

    private static void number(String call, int cls, int v, int want) {
        x.become(cls, v);
        done(call + " of " + v, x.run(cls, 1), want);
        due("v stays", x.v(cls), v);
    }

    private static void leafNumber() {
        start("0 LEAF: V", LEAF);
        for (int v : new int[] {LOW, LOW + 1, -1, 0, 1, HIGH - 1, HIGH}) {
            number("LEAF", LEAF, v, v);
        }
    }

    private static void twiceNumber() {
        start("1 TWICE, going round", LEAF, TWICE);
        number("TWICE", TWICE, 0, 0);
        number("TWICE", TWICE, 0x3fffffff, 0x7ffffffe);
        number("TWICE", TWICE, 0x40000000, LOW);
        number("TWICE", TWICE, -0x40000000, LOW);
        number("TWICE", TWICE, -0x40000001, HIGH - 1);
        number("TWICE", TWICE, HIGH, -2);
        number("TWICE", TWICE, LOW, 0);
    }

    private static void thriceNumber() {
        start("2 THRICE, going round", LEAF, TWICE, THRICE);
        number("THRICE", THRICE, 0, 0);
        number("THRICE", THRICE, 715827882, 2147483646);
        number("THRICE", THRICE, 715827883, -2147483647);
        number("THRICE", THRICE, -715827882, -2147483646);
        number("THRICE", THRICE, -715827883, 2147483647);
        number("THRICE", THRICE, HIGH, 2147483645);
        number("THRICE", THRICE, LOW, LOW);
    }

    private static void shareNumber() {
        start("3 SHARE: 1000 / V, cut towards 0", LEAF, TWICE, THRICE, SHARE);
        int[][] shares = {{1, 1000}, {-1, -1000}, {3, 333}, {-3, -333}, {7, 142}, {-7, -142}, {999, 1}, {-999, -1},
            {1000, 1}, {-1000, -1}, {1001, 0}, {-1001, 0}, {HIGH, 0}, {LOW, 0}};
        for (int[] share : shares) {
            number("SHARE", SHARE, share[0], share[1]);
        }
    }

    private static void linkedNumber() {
        start("4 LINKED: its LINK's NUMBER and 1", LEAF, LINKED);
        refused("of NOTHING", x.run(1, 100), 1);
        x.link(1, 0);
        int[][] numbers = {{HIGH - 1, HIGH}, {HIGH, LOW}, {LOW, LOW + 1}, {-1, 0}, {0, 1}};
        for (int[] pair : numbers) {
            x.become(0, pair[0]);
            done("of " + pair[0], x.run(1, 2), pair[1]);
        }
        x.link(1, NONE);
        refused("of NOTHING again", x.run(1, 100), 1);
    }

    private static void throwsNumber() {
        start("5 THROWS: OWN with V; if V is 0, NOTHING", THROWS);
        refused("0 at first", x.run(0, 1), 1);
        due("own", x.own(), 0);
        for (int v : new int[] {1, -1, HIGH, LOW}) {
            x.become(0, v);
            refused("of " + v, x.run(0, 1), 7);
            due("own", x.own(), v);
        }
        x.become(0, 0);
        refused("of 0", x.run(0, 1), 1);
        due("own stays", x.own(), LOW);
    }

    private static void firstNumberOfNumbers() {
        start("6 FIRST: item 0, of longs its lowest 32 bits", FIRST);
        refused("of NOTHING", x.run(0, 1), 1);
        x.hold(0, INTS, 0);
        refused("of no ints", x.run(0, 1), 3);
        x.hold(0, LONGS, 0);
        refused("of no longs", x.run(0, 1), 3);
        long[] items = {0, -1, HIGH, LOW, 1L << 31, (1L << 32) - 1, 1L << 32, (1L << 32) + 5, -(1L << 31) - 1,
            Long.MAX_VALUE, Long.MIN_VALUE};
        int[] numbers = {0, -1, HIGH, LOW, LOW, -1, 0, 5, HIGH, -1, 0};
        for (int sort = INTS; sort <= LONGS; sort++) {
            x.hold(0, sort, 2);
            x.lay(0, 1, 77);
            for (int i = 0; i < items.length; i++) {
                x.lay(0, 0, items[i]);
                done("of " + items[i], x.run(0, 1), numbers[i]);
                due("item as it was", x.at(0, 0), sort == LONGS ? items[i] : numbers[i]);
            }
        }
    }

    private static void firstNumberOfThings() {
        start("6 FIRST: of THINGS, LEAVES its NUMBER", FIRST, LEAF, TWICE, SHARE);
        x.become(1, 5);
        x.become(2, 6);
        for (int sort = THINGS; sort <= LEAVES; sort++) {
            x.hold(0, sort, 0);
            refused("of none", x.run(0, 1), 3);
            x.hold(0, sort, 2);
            x.set(0, 1, 1);
            refused("of NOTHING", x.run(0, 2), 1);
            x.set(0, 0, 1);
            done("of LEAF", x.run(0, 2), 5);
            x.set(0, 0, 2);
            done("of TWICE", x.run(0, 2), 12);
            x.set(0, 0, NONE);
            refused("of NOTHING again", x.run(0, 2), 1);
        }
        x.hold(0, THINGS, 1);
        x.set(0, 0, 3);
        refused("of SHARE of 0", x.run(0, 2), 6);
        x.set(0, 0, 0);
        refused("of itself", x.run(0, 100), 8);
    }

    private static void sumNumber() {
        start("7 SUM: the sum of the ints that it HOLDS", SUM);
        refused("of NOTHING", x.run(0, 1), 1);
        x.hold(0, INTS, 0);
        done("of none", x.run(0, 1), 0);
        fill(0, 1);
        done("of one", x.run(0, 1), 1);
        fill(0, 12);
        done("of twelve", x.run(0, 1), 78);
        x.hold(0, INTS, 3);
        x.lay(0, 0, HIGH);
        done("the highest", x.run(0, 1), HIGH);
        x.lay(0, 2, 1);
        done("beyond it", x.run(0, 1), LOW);
        x.lay(0, 1, -1);
        done("back", x.run(0, 1), HIGH);
        x.lay(0, 0, LOW);
        done("below the lowest and up", x.run(0, 1), LOW);
        x.lay(0, 2, 0);
        done("below the lowest", x.run(0, 1), HIGH);
        for (int sort = LONGS; sort <= LEAVES; sort++) {
            x.hold(0, sort, 0);
            refused("of none of sort " + sort, x.run(0, 1), 2);
            x.hold(0, sort, 1);
            refused("of sort " + sort, x.run(0, 1), 2);
        }
    }

    private static void begunWithin() {
        start("A NUMBER is BEGUN, then worked out; those that it takes within it", LEAF, LINKED, FIRST, THRICE, SUM);
        x.link(1, 3);
        x.hold(2, THINGS, 1);
        x.set(2, 0, 1);
        done("THRICE, by the classes above", x.run(3, 1), 0);
        work("THRICE", 1, 0);
        fill(4, 12);
        done("SUM of twelve", x.run(4, 1), 78);
        work("SUM", 1, 0);
        done("FIRST, LINKED, THRICE", x.run(2, 3), 1);
        work("the three", 3, 0);
        refused("one too few", x.run(2, 2), 9);
        work("one too few", 2, 2);
    }

    private static void nothing() {
        start("1 NOTHING", LEAF, LINKED, THROWS, FIRST, SUM);
        refused("a NUMBER of NOTHING, LINKED", x.run(1, 1), 1);
        refused("a NUMBER of NOTHING, gather", x.gather(0, 1), 1);
        refused("a V of NOTHING", x.trade(0), 1);
        refused("a LINK of NOTHING", x.follow(0), 1);
        refused("a length", x.size(0), 1);
        refused("a length, SUM", x.run(4, 1), 1);
        refused("a length, move", x.move(0, 0, 0, 0, 0), 1);
        refused("an item, at", x.at(0, 0), 1);
        refused("an item, lay", x.lay(0, 0, 0), 1);
        refused("an item, set", x.set(0, 0, 0), 1);
        refused("an item, FIRST", x.run(3, 1), 1);
        refused("an item, keep", x.keep(0, 0, 0, 1), 1);
        refused("NOTHING is thrown", x.run(2, 1), 1);
        x.hold(3, THINGS, 1);
        refused("a NUMBER of NOTHING, FIRST", x.run(3, 1), 1);
        due("told", x.told(1), 14);
        due("linked to what is linked to NOTHING", x.link(0, 1), NONE);
        done("that is no LINK of NOTHING", x.follow(0), NONE);
    }

    private static void cast() {
        int[] sums = {0, 2, 2, 2};
        int[] lays = {0, 0, 2, 2};
        int[] sets = {2, 2, 0, 0};
        int[] keeps = {0, 2, 2, 2};
        for (int sort = 0; sort <= 3; sort++) {
            start("2 CAST, sort " + sort, SUM, LEAF);
            x.hold(0, sort, 1);
            x.run(0, 1);
            due("SUM wants ints", x.outcome(), sums[sort]);
            x.lay(0, 0, 0);
            due("lay() wants ints, longs", x.outcome(), lays[sort]);
            x.set(0, 0, NONE);
            due("set() wants THINGS, LEAVES", x.outcome(), sets[sort]);
            x.keep(1, 0, 0, 1);
            due("keep() wants ints", x.outcome(), keeps[sort]);
            x.at(0, 0);
            due("at() wants any", x.outcome(), 0);
            x.size(0);
            due("size() wants any", x.outcome(), 0);
        }
    }

    private static void index() {
        start("3 INDEX: no such item", LEAF, FIRST);
        fill(0, 3);
        for (int k : new int[] {LOW, -1, 3, 12, HIGH}) {
            refused("at " + k, x.at(0, k), 3);
            refused("lay " + k, x.lay(0, k, 9), 3);
            refused("keep " + k, x.keep(0, 0, k, 1), 3);
        }
        items("as before", 0, 1, 2, 3);
        done("at 0", x.at(0, 0), 1);
        done("at 2", x.at(0, 2), 3);
        x.hold(1, INTS, 0);
        refused("FIRST of none", x.run(1, 1), 3);
        x.hold(1, INTS, 1);
        done("FIRST of one", x.run(1, 1), 0);
    }

    private static void size() {
        start("4 SIZE: a number of items below 0", LEAF);
        fill(0, 2);
        refused("-1", x.hold(0, LONGS, -1), 4);
        refused("the lowest", x.hold(0, INTS, LOW), 4);
        items("as before", 0, 1, 2);
        due("holds as before", x.holds(0), INTS);
        done("0", x.hold(0, LONGS, 0), 0);
        due("holds", x.holds(0), LONGS);
        refused("a move of -1 is no SIZE", x.move(0, 0, 0, 0, -1), 3);
        due("told", x.told(4), 2);
    }

    private static void storeOfLeaves() {
        start("5 STORE: a THING that is no LEAF (TWICE, THRICE are)", LEAF, TWICE, THRICE, SHARE, LINKED, THROWS,
                FIRST, SUM);
        x.hold(0, LEAVES, 1);
        x.hold(1, THINGS, 1);
        for (int t = 0; t < 8; t++) {
            boolean leaf = t <= THRICE;
            x.set(0, 0, NONE);
            told("set " + t, x.set(0, 0, t), leaf ? NONE : 0, leaf ? 0 : 5);
            due("item", x.at(0, 0), leaf ? t : NONE);
            x.set(0, 0, NONE);
            x.set(1, 0, t);
            told("move " + t, x.move(1, 0, 0, 0, 1), leaf ? 1 : 0, leaf ? 0 : 5);
            due("item", x.at(0, 0), leaf ? t : NONE);
            done("into THINGS", x.set(1, 0, t), t);
        }
        done("NOTHING", x.set(0, 0, NONE), NONE);
    }

    private static void storeOfRows() {
        int[][] outcomes = {{0, 5, 5, 5}, {5, 0, 5, 5}, {5, 5, 0, 0}, {5, 5, 0, 0}};
        for (int from = 0; from <= 3; from++) {
            for (int to = 0; to <= 3; to++) {
                start("5 STORE: a ROW into one that it can't go to, " + from + " into " + to, LEAF, LEAF);
                x.hold(0, from, 2);
                x.hold(1, to, 2);
                for (int n = 0; n <= 2; n++) {
                    int outcome = outcomes[from][to];
                    told("move of " + n, x.move(0, 0, 1, 0, n), outcome == 0 ? n : 0, outcome);
                }
            }
        }
    }

    private static void zero() {
        start("6 ZERO: divided by 0", SHARE, LINKED);
        x.link(1, 0);
        refused("of 0", x.run(0, 1), 6);
        refused("within", x.run(1, 2), 6);
        work("within", 2, 2);
        x.become(0, 1);
        done("of 1", x.run(0, 1), 1000);
        done("within", x.run(1, 2), 1001);
        x.become(0, -1);
        done("of -1", x.run(0, 1), -1000);
        due("told", x.told(6), 2);
    }

    private static void ownThrown() {
        start("7 OWN", THROWS, LINKED, FIRST);
        x.link(1, 0);
        x.hold(2, THINGS, 1);
        x.set(2, 0, 1);
        x.become(0, -1);
        refused("by itself", x.run(0, 1), 7);
        work("by itself", 1, 1);
        refused("out of two", x.run(1, 2), 7);
        work("out of two", 2, 2);
        refused("out of three", x.run(2, 3), 7);
        work("out of three", 3, 3);
        due("own", x.own(), -1);
        due("told", x.told(7), 3);
    }

    /** Things 0 .. n - 1: a LEAF with V 1000, and LINKED ones, each to the one ahead of it. */
    private static void chain(String name, int n) {
        start(name, LEAF);
        x.become(0, 1000);
        for (int t = 1; t < n; t++) {
            x.thing(LINKED, 0);
            x.link(t, t - 1);
        }
    }

    private static void deepWithin30() {
        chain("8 DEEP: it would be BEGUN within 30 others", 32);
        done("within 28 others", x.run(28, 100), 1028);
        done("within 29 others", x.run(29, 100), 1029);
        work("within 29 others", 30, 0);
        refused("within 30 others", x.run(30, 100), 8);
        work("within 30 others", 30, 30);
        refused("within 31 others", x.run(31, 100), 8);
        work("within 31 others", 30, 30);
        x.link(1, NONE);
        refused("NOTHING within 30 others", x.run(30, 100), 1);
        work("NOTHING within 30 others", 30, 30);
        x.link(1, 0);
        done("gather of 30", x.gather(30, 100), 1029);
        refused("gather of 31", x.gather(31, 100), 8);
        due("v as before", x.v(31), 0);
    }

    private static void spent() {
        chain("9 SPENT: more would be BEGUN than the limit says", 4);
        done("as many as begun", x.run(3, 4), 1003);
        work("as many as begun", 4, 0);
        refused("one fewer", x.run(3, 3), 9);
        work("one fewer", 3, 3);
        refused("1", x.run(3, 1), 9);
        work("1", 1, 1);
        done("one begun, 1", x.run(0, 1), 1000);
        x.link(1, NONE);
        refused("NOTHING is not begun", x.run(1, 1), 1);
        work("NOTHING", 1, 1);
        due("told", x.told(9), 2);
    }

    private static void spentAheadOfDeep() {
        chain("9 (asked ahead of 8)", 32);
        refused("29", x.run(30, 29), 9);
        work("29", 29, 29);
        refused("30", x.run(30, 30), 9);
        work("30", 30, 30);
        refused("31", x.run(30, 31), 8);
        work("31", 30, 30);
        due("told 8", x.told(8), 1);
        due("told 9", x.told(9), 2);
    }

    private static void numbersOfItemsAreNeverOutside() {
        start("another number (not of an item) out of its bounds", LEAF, LEAF);
        x.hold(0, INTS, 12);
        x.hold(1, THINGS, 12);
        for (int k : new int[] {LOW, OUTSIDE, -2, -1, 12, 13, HIGH}) {
            refused("at " + k, x.at(0, k), 3);
            refused("lay " + k, x.lay(0, k, 1), 3);
            refused("set " + k, x.set(1, k, 1), 3);
            refused("keep " + k, x.keep(1, 0, k, 1), 3);
            refused("move from " + k, x.move(0, k, 0, 0, 1), 3);
            refused("move to " + k, x.move(0, 0, 0, k, 1), 3);
        }
        for (int n : new int[] {LOW, OUTSIDE, -2, -1, 13, HIGH}) {
            refused("move of " + n, x.move(0, 0, 0, 0, n), 3);
        }
        done("move of 12", x.move(0, 0, 0, 0, 12), 12);
    }
}
