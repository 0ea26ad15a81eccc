/** Promises 19 to 23: places that are not sure. */
public final class PlacesTest {
    private static final int UNKNOWN = -1, OUTSIDE = -2, STATE = -3, FULL = -4, NOWAY = -5, NONE = -9;
    private static final int THING = 0, ROOM = 1, DOOR = 2, BACKDROP = 3, CARRIER = 4, PERSON = 5;
    private static final Due due = new Due("PlacesTest");

    public static void main(String[] args) {
        amongRefuses();
        amongNarrows();
        amongGoesAgainst();
        theLastBit();
        pairRefuses();
        pairGoesAgainst();
        mostRefuses();
        mostGoesAgainst();
        settleTakesTheLeast();
        settleHeedsMost();
        settleHeedsPairs();
        settleHeedsNesting();
        settleGoesBack();
        settleRefuses();
        fullAtThreeHundred();
        due.end();
    }

    private static void amongRefuses() {
        WorldMake w = Due.world(ROOM, DOOR, BACKDROP, CARRIER, THING, PERSON);
        due.is("among(6, {0})", w.among(6, 1), UNKNOWN);
        due.is("among(-1, {0})", w.among(-1, 1), UNKNOWN);
        due.is("among(4, {6})", w.among(4, 64), UNKNOWN);
        due.is("among(4, {0, 63})", w.among(4, Long.MIN_VALUE + 1), UNKNOWN);
        due.is("among(6, {})", w.among(6, 0), UNKNOWN);
        due.is("among(4, {})", w.among(4, 0), OUTSIDE);
        due.is("among(0, {}): outside ahead of state", w.among(0, 0), OUTSIDE);
        due.is("among(0, {3}): a room", w.among(0, 8), STATE);
        due.is("among(1, {0}): a door", w.among(1, 1), STATE);
        due.is("among(2, {0}): a backdrop", w.among(2, 1), STATE);
        due.is("among(3, {0, 3}): itself", w.among(3, 9), STATE);
        due.is("among(4, {0, 1}): a door", w.among(4, 3), STATE);
        due.is("among(4, {0, 2}): a backdrop", w.among(4, 5), STATE);
        due.is("among(3, {0, 4}): a thing", w.among(3, 17), STATE);
        WorldMake x = Due.world(THING, ROOM, THING);
        due.is("among(2, {0, 1}): a thing", x.among(2, 3), STATE);
        due.is("set(4)", w.set(4), 0);
        due.is("among(4, {0, 3, 5})", w.among(4, 41), 0);
        due.is("set(4)", w.set(4), 41);
        due.is("set(6)", w.set(6), 0);
        due.is("set(-1)", w.set(-1), 0);
        due.is("among(5, {3})", w.among(5, 8), 1);
        due.is("count(7)", w.count(7), 2);
    }

    private static void amongNarrows() {
        WorldMake w = Due.world(ROOM, ROOM, ROOM, ROOM, THING);
        due.is("bar(4, 1)", w.bar(4, 1), 0);
        due.is("among(4, {0, 1, 2})", w.among(4, 7), 1);
        due.is("set without the barred one", w.set(4), 5);
        due.is("bar(4, 0)", w.bar(4, 0), 2);
        due.is("set", w.set(4), 4);
        due.is("among(4, {2, 3})", w.among(4, 12), 3);
        due.is("what both have", w.set(4), 4);
        due.is("put(4, 3)", w.put(4, 3), Due.against(3));
        due.is("put(4, 2)", w.put(4, 2), 4);
        due.is("set stays", w.set(4), 4);
        due.is("count(7)", w.count(7), 0);
        due.is("among(4, {2, 3}) when put", w.among(4, 12), 5);
        due.is("set stays", w.set(4), 4);
    }

    private static void amongGoesAgainst() {
        WorldMake w = Due.world(ROOM, ROOM, ROOM, THING, THING, THING);
        due.is("put(3, 0)", w.put(3, 0), 0);
        due.is("among(3, {1, 2}): the put", w.among(3, 6), Due.against(0));
        due.is("among(3, {0, 2})", w.among(3, 5), 1);
        due.is("among(3, {2}): the put ahead of the among", w.among(3, 4), Due.against(0));
        due.is("set(3)", w.set(3), 5);
        due.is("bar(4, 1)", w.bar(4, 1), 2);
        due.is("bar(4, 0)", w.bar(4, 0), 3);
        due.is("bar(4, 1) again", w.bar(4, 1), 4);
        due.is("among(4, {0}): the first bar into it", w.among(4, 1), Due.against(3));
        due.is("among(4, {0, 1}): the first bar", w.among(4, 3), Due.against(2));
        due.is("set(4)", w.set(4), 0);
        due.is("among(4, {0, 1, 2})", w.among(4, 7), 5);
        due.is("among(4, {0, 1}): nothing alike, ahead of the bars", w.among(4, 3), Due.against(5));
        due.is("among(5, {0, 1})", w.among(5, 3), 6);
        due.is("among(5, {1, 2})", w.among(5, 6), 7);
        due.is("among(5, {0, 2}): the latest", w.among(5, 5), Due.against(7));
        due.is("set(5)", w.set(5), 2);
        WorldMake x = Due.world(ROOM, ROOM, THING);
        due.is("bar(2, 0)", x.bar(2, 0), 0);
        due.is("bar(2, 1)", x.bar(2, 1), 1);
        due.is("among(2, {0, 1}): the very first", x.among(2, 3), Due.against(0));
    }

    private static void theLastBit() {
        WorldMake w = new WorldMake();
        for (int k = 0; k < 64; k++) {
            w.thing(k == 0 ? THING : CARRIER, 0);
        }
        due.is("among(0, {63})", w.among(0, Long.MIN_VALUE), 0);
        due.is("set(0)", w.set(0), Long.MIN_VALUE);
        due.is("sentence(0, 2)", w.sentence(0, 2), 0);
        due.is("among(1, all others)", w.among(1, ~3L), 1);
        due.is("sentence(1, 2)", w.sentence(1, 2), -4);
        due.is("bar(0, 63)", w.bar(0, 63), Due.against(0));
        due.is("bar(1, 63)", w.bar(1, 63), 2);
        due.is("set(1)", w.set(1), ~3L & Long.MAX_VALUE);
        due.is("settle()", w.settle(), 2);
        due.is("place(0, 0)", w.place(0, 0), 63);
        due.is("place(1, 0)", w.place(1, 0), 2);
    }

    private static void pairRefuses() {
        WorldMake w = Due.world(ROOM, DOOR, BACKDROP, CARRIER, THING, PERSON);
        due.is("pair(6, 3)", w.pair(6, 3, true), UNKNOWN);
        due.is("pair(3, 6)", w.pair(3, 6, true), UNKNOWN);
        due.is("pair(-1, 3)", w.pair(-1, 3, true), UNKNOWN);
        due.is("pair(3, -1)", w.pair(3, -1, true), UNKNOWN);
        due.is("pair(3, 3)", w.pair(3, 3, true), STATE);
        for (int k = 0; k < 3; k++) {
            due.is("pair(" + k + ", 3)", w.pair(k, 3, true), STATE);
            due.is("pair(3, " + k + ")", w.pair(3, k, true), STATE);
        }
        for (int k = 0; k < 16; k++) {
            due.is("pair number " + k, w.pair(3 + k % 2, 5, true), k);
        }
        due.is("count(9)", w.count(9), 16);
        due.is("pair(3, 4) when full", w.pair(3, 4, true), FULL);
        due.is("pair(3, 5, false): full ahead of against", w.pair(3, 5, false), FULL);
        due.is("pair(3, 3): state ahead of full", w.pair(3, 3, true), STATE);
    }

    private static void pairGoesAgainst() {
        WorldMake w = Due.world(ROOM, ROOM, THING, THING, THING, THING);
        due.is("pair(2, 3, true)", w.pair(2, 3, true), 0);
        due.is("pair(3, 2, true)", w.pair(3, 2, true), 1);
        due.is("pair(3, 2, false): the first", w.pair(3, 2, false), Due.against(0));
        due.is("pair(2, 3, false): the first", w.pair(2, 3, false), Due.against(0));
        due.is("put(5, 1)", w.put(5, 1), 2);
        due.is("put(4, 0)", w.put(4, 0), 3);
        due.is("pair(4, 5, true): the later put", w.pair(4, 5, true), Due.against(3));
        due.is("pair(5, 4, true): the later put", w.pair(5, 4, true), Due.against(3));
        due.is("pair(4, 2, true): one was put", w.pair(4, 2, true), 4);
        due.is("pair(3, 5, true): one was put", w.pair(3, 5, true), 5);
        due.is("pair(4, 5, false)", w.pair(4, 5, false), 6);
        due.is("pair(4, 5, true): the pair ahead of the put", w.pair(4, 5, true), Due.against(6));
        due.is("put(2, 0)", w.put(2, 0), 7);
        due.is("put(3, 1): the first pair", w.put(3, 1), Due.against(0));
        due.is("put(3, 0): another pair", w.put(3, 0), Due.against(5));
        due.is("count(9)", w.count(9), 5);
        due.is("sentence(4, 0)", w.sentence(4, 0), 4);
        WorldMake x = Due.world(ROOM, THING, THING);
        due.is("put(2, 0)", x.put(2, 0), 0);
        due.is("put(1, 0)", x.put(1, 0), 1);
        due.is("pair(1, 2, false): the same one", x.pair(1, 2, false), Due.against(1));
        due.is("pair(1, 2, true)", x.pair(1, 2, true), 2);
    }

    private static void mostRefuses() {
        WorldMake w = Due.world(ROOM, DOOR, BACKDROP, THING, CARRIER, PERSON);
        due.is("most(6, 1)", w.most(6, 1), UNKNOWN);
        due.is("most(-1, 99)", w.most(-1, 99), UNKNOWN);
        due.is("most(0, -1)", w.most(0, -1), OUTSIDE);
        due.is("most(0, 65)", w.most(0, 65), OUTSIDE);
        due.is("most(1, 65): outside ahead of state", w.most(1, 65), OUTSIDE);
        for (int k = 1; k < 4; k++) {
            due.is("most(" + k + ", 1)", w.most(k, 1), STATE);
        }
        due.is("most(0, 64)", w.most(0, 64), 0);
        due.is("most(0, 3): it has one", w.most(0, 3), STATE);
        due.is("most(4, 0)", w.most(4, 0), 1);
        due.is("most(4, 0): it has one", w.most(4, 0), STATE);
        due.is("most(5, 1)", w.most(5, 1), 2);
        due.is("put(3, 4): none may", w.put(3, 4), Due.against(1));
        due.is("put(3, 5)", w.put(3, 5), 3);
        due.is("sentence(2, 1)", w.sentence(2, 1), 5);
        due.is("sentence(2, 2)", w.sentence(2, 2), 1);
    }

    private static void mostGoesAgainst() {
        WorldMake w = Due.world(ROOM, ROOM, THING, BACKDROP, THING, THING, THING);
        due.is("put(3, 0): a backdrop", w.put(3, 0), 0);
        due.is("put(2, 1): elsewhere", w.put(2, 1), 1);
        due.is("put(6, 0)", w.put(6, 0), 2);
        due.is("put(4, 0)", w.put(4, 0), 3);
        due.is("bar(5, 1)", w.bar(5, 1), 4);
        due.is("put(5, 0)", w.put(5, 0), 5);
        due.is("most(0, 0)", w.most(0, 0), Due.against(2));
        due.is("most(0, 1)", w.most(0, 1), Due.against(3));
        due.is("most(0, 2)", w.most(0, 2), Due.against(5));
        due.is("most(0, 3)", w.most(0, 3), 6);
    }

    private static void settleTakesTheLeast() {
        WorldMake w = Due.world(THING, THING, ROOM, ROOM, ROOM);
        due.is("settle() of none", w.settle(), 0);
        due.is("among(1, {3, 4})", w.among(1, 24), 0);
        due.is("among(0, {2, 3})", w.among(0, 12), 1);
        due.is("bar(0, 2)", w.bar(0, 2), 2);
        due.is("settle()", w.settle(), 2);
        due.is("place(0, 0)", w.place(0, 0), 3);
        due.is("place(1, 0)", w.place(1, 0), 3);
        due.is("sentence(3, 0)", w.sentence(3, 0), 0);
        due.is("sentence(3, 1): by number", w.sentence(3, 1), 0);
        due.is("sentence(3, 2)", w.sentence(3, 2), 3);
        due.is("sentence(4, 1)", w.sentence(4, 1), 1);
        due.is("count(3)", w.count(3), 5);
        due.is("count(7)", w.count(7), 0);
        due.is("put(0, 4): as a put", w.put(0, 4), Due.against(3));
        due.is("put(0, 3): as a put", w.put(0, 3), STATE);
        due.is("settle() again", w.settle(), 0);
        due.is("load", w.says(3, 2), 2);
    }

    private static void settleHeedsMost() {
        WorldMake w = Due.world(ROOM, ROOM, THING, THING, THING, BACKDROP);
        due.is("put(5, 0)", w.put(5, 0), 0);
        due.is("put(2, 0)", w.put(2, 0), 1);
        due.is("most(0, 2)", w.most(0, 2), 2);
        due.is("most(1, 0)", w.most(1, 0), 3);
        due.is("among(3, {0, 1})", w.among(3, 3), 4);
        due.is("settle()", w.settle(), 1);
        due.is("place(3, 0)", w.place(3, 0), 0);
        due.is("among(4, {0, 1})", w.among(4, 3), 6);
        due.is("settle(): no way", w.settle(), NOWAY);
        due.is("place(4, 0)", w.place(4, 0), NONE);
        due.is("count(3)", w.count(3), 7);
        due.is("count(7)", w.count(7), 1);
        due.is("load stays", w.says(0, 2), 2);
        due.is("make(): unsettled", w.make(), STATE);
    }

    private static void settleHeedsPairs() {
        WorldMake w = Due.world(ROOM, ROOM, ROOM, THING, THING, THING, THING);
        due.is("put(3, 1)", w.put(3, 1), 0);
        due.is("pair(3, 4, false)", w.pair(3, 4, false), 1);
        due.is("pair(5, 4, true)", w.pair(5, 4, true), 2);
        due.is("pair(6, 4, true): lies nowhere", w.pair(6, 4, true), 3);
        due.is("among(4, {1, 2})", w.among(4, 6), 4);
        due.is("among(5, {0, 1, 2})", w.among(5, 7), 5);
        due.is("settle()", w.settle(), 2);
        due.is("place(4, 0)", w.place(4, 0), 2);
        due.is("place(5, 0)", w.place(5, 0), 2);
        due.is("place(6, 0)", w.place(6, 0), NONE);
        due.is("put(6, 0)", w.put(6, 0), Due.against(3));
    }

    private static void settleHeedsNesting() {
        WorldMake w = Due.world(CARRIER, CARRIER, CARRIER, ROOM);
        due.is("among(0, {1, 3})", w.among(0, 10), 0);
        due.is("among(1, {2})", w.among(1, 4), 1);
        due.is("among(2, {0, 3})", w.among(2, 9), 2);
        due.is("settle()", w.settle(), 3);
        due.is("place(0, 0)", w.place(0, 0), 1);
        due.is("place(1, 0)", w.place(1, 0), 2);
        due.is("place(2, 0): not in what lies in it", w.place(2, 0), 3);
        WorldMake x = Due.world(CARRIER, CARRIER, CARRIER);
        x.put(0, 1);
        x.among(1, 4);
        x.among(2, 1);
        due.is("settle(): in a ring", x.settle(), NOWAY);
        due.is("place(1, 0)", x.place(1, 0), NONE);
        due.is("place(2, 0)", x.place(2, 0), NONE);
        due.is("bulk is as it was", x.says(2, 0), 1);
    }

    private static void settleGoesBack() {
        WorldMake w = Due.world(ROOM, ROOM, ROOM, THING, THING, THING);
        for (int room = 0; room < 3; room++) {
            w.most(room, 1);
        }
        w.among(3, 7);
        w.among(4, 3);
        w.among(5, 1);
        due.is("settle()", w.settle(), 3);
        due.is("place(3, 0)", w.place(3, 0), 2);
        due.is("place(4, 0)", w.place(4, 0), 1);
        due.is("place(5, 0)", w.place(5, 0), 0);
        for (int k = 0; k < 3; k++) {
            due.is("sentence(" + (6 + k) + ", 1)", w.sentence(6 + k, 1), 3 + k);
            due.is("sentence(" + (6 + k) + ", 2)", w.sentence(6 + k, 2), 2 - k);
        }
    }

    private static WorldMake unsettled(int rooms, int things, long set) {
        WorldMake w = new WorldMake();
        for (int k = 0; k < rooms; k++) {
            w.thing(ROOM, 0);
        }
        for (int k = 0; k < things; k++) {
            w.among(w.thing(THING, 0), set);
        }
        return w;
    }

    private static void settleRefuses() {
        due.is("settle() of seven", unsettled(1, 7, 1).settle(), 7);
        WorldMake eight = unsettled(1, 8, 1);
        due.is("settle() of eight", eight.settle(), STATE);
        due.is("count(7)", eight.count(7), 8);
        eight.put(1, 0);
        due.is("settle() of eight, one put", eight.settle(), 7);
        due.is("3 to the 7th", unsettled(3, 7, 7).settle(), 7);
        WorldMake many = unsettled(4, 6, 15);
        due.is("4 to the 6th", many.settle(), STATE);
        due.is("count(3)", many.count(3), 6);
        WorldMake edge = unsettled(50, 2, (1L << 50) - 1);
        edge.among(edge.thing(THING, 0), 3);
        due.is("50 * 50 * 2", edge.settle(), STATE);
        edge.bar(50, 0);
        edge.bar(50, 1);
        edge.bar(50, 2);
        edge.bar(51, 3);
        due.is("47 * 49 * 2", edge.settle(), STATE);
        for (int k = 10; k < 30; k++) {
            edge.bar(50, k);
        }
        due.is("27 * 49 * 2", edge.settle(), 3);
        due.is("place(50, 0)", edge.place(50, 0), 3);
        WorldMake exact = unsettled(50, 1, (1L << 50) - 1);
        exact.among(exact.thing(THING, 0), (1L << 30) - 1);
        exact.among(exact.thing(THING, 0), 3);
        due.is("50 * 30 * 2 is 3000", exact.settle(), 3);
    }

    private static void fullAtThreeHundred() {
        WorldMake w = unsettled(2, 2, 3);
        int other = w.thing(THING, 0);
        int third = w.thing(CARRIER, 0);
        w.pair(2, 3, true);
        w.most(0, 0);
        Due.tellUntil(w, 299, other, 0);
        due.is("settle(): one too many", w.settle(), FULL);
        due.is("count(7)", w.count(7), 2);
        due.is("place(2, 0)", w.place(2, 0), NONE);
        Due.tellUntil(w, 300, other, 0);
        due.is("settle(): still", w.settle(), FULL);
        due.is("among(other, {1})", w.among(other, 2), FULL);
        due.is("among(other, {0}): full ahead of against", w.among(other, 1), FULL);
        due.is("pair(2, other)", w.pair(2, other, true), FULL);
        due.is("pair(2, 3, false): full ahead of against", w.pair(2, 3, false), FULL);
        due.is("most(1, 1)", w.most(1, 1), FULL);
        due.is("most(1, 1): it has none yet", w.most(1, 1), FULL);
        due.is("most(0, 1): state ahead of full", w.most(0, 1), STATE);
        due.is("most(third, 1)", w.most(third, 1), FULL);
        WorldMake x = unsettled(2, 2, 3);
        int stone = x.thing(THING, 0);
        Due.tellUntil(x, 298, stone, 0);
        due.is("settle(): just enough", x.settle(), 2);
        due.is("count(3)", x.count(3), 300);
        due.is("settle() of none when full", x.settle(), 0);
        WorldMake y = unsettled(1, 1, 1);
        y.most(0, 0);
        Due.tellUntil(y, 300, 1, y.thing(CARRIER, 0));
        due.is("settle(): full ahead of no way", y.settle(), FULL);
    }
}
