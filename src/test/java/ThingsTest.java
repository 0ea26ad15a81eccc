/** Promises 6 to 18: things, where they lie, what they have, what they say. */
public final class ThingsTest {
    private static final int UNKNOWN = -1, OUTSIDE = -2, STATE = -3, FULL = -4, NONE = -9;
    private static final int THING = 0, ROOM = 1, DOOR = 2, BACKDROP = 3, CARRIER = 4, PERSON = 5;
    private static final Due due = new Due("ThingsTest");

    public static void main(String[] args) {
        thingsComeInOrder();
        putRefuses();
        putOfBackdrops();
        putGoesAgainst();
        putGoesAgainstTheFirstOfThese();
        barRefusesAndGoesAgainst();
        giveRefuses();
        giveGoesAgainst();
        lanesTell();
        peeks();
        placesAsTold();
        bulks();
        worths();
        lidsAndStrides();
        follows();
        marks();
        opens();
        derivedKinds();
        fullAtThreeHundred();
        due.end();
    }

    private static void thingsComeInOrder() {
        WorldMake w = new WorldMake();
        due.is("thing(6, 0)", w.thing(6, 0), UNKNOWN);
        due.is("thing(-1, 0)", w.thing(-1, 0), UNKNOWN);
        due.is("thing(6, -1)", w.thing(6, -1), UNKNOWN);
        due.is("thing(0, -1)", w.thing(0, -1), OUTSIDE);
        due.is("thing(0, 1001)", w.thing(0, 1001), OUTSIDE);
        for (int k = 0; k < 64; k++) {
            due.is("thing number " + k, w.thing(k % 6, k == 0 ? 1000 : 0), k);
        }
        due.is("thing(0, 0) when full", w.thing(0, 0), FULL);
        due.is("thing(0, 1001) when full", w.thing(0, 1001), OUTSIDE);
        due.is("thing(6, 0) when full", w.thing(6, 0), UNKNOWN);
        due.is("count(2)", w.count(2), 64);
    }

    private static void putRefuses() {
        WorldMake w = Due.world(THING, ROOM, DOOR, BACKDROP, CARRIER, PERSON, CARRIER);
        due.is("put(7, 1)", w.put(7, 1), UNKNOWN);
        due.is("put(0, 7)", w.put(0, 7), UNKNOWN);
        due.is("put(-1, 1)", w.put(-1, 1), UNKNOWN);
        due.is("put(0, -9)", w.put(0, -9), UNKNOWN);
        due.is("put(1, 4): a room", w.put(1, 4), STATE);
        due.is("put(2, 1): a door", w.put(2, 1), STATE);
        due.is("put(0, 2): into a door", w.put(0, 2), STATE);
        due.is("put(0, 3): into a backdrop", w.put(0, 3), STATE);
        due.is("put(4, 0): into a thing", w.put(4, 0), STATE);
        due.is("put(3, 4): a backdrop into a carrier", w.put(3, 4), STATE);
        due.is("put(3, 5): a backdrop into a person", w.put(3, 5), STATE);
        due.is("put(4, 4): into itself", w.put(4, 4), STATE);
        due.is("put(4, 5)", w.put(4, 5), 0);
        due.is("put(5, 6)", w.put(5, 6), 1);
        due.is("put(6, 4): within itself", w.put(6, 4), STATE);
        due.is("put(6, 5): within itself", w.put(6, 5), STATE);
        due.is("put(5, 4): within itself, ahead of the put", w.put(5, 4), STATE);
        due.is("put(6, 1)", w.put(6, 1), 2);
        due.is("put(6, 1) again", w.put(6, 1), STATE);
        due.is("count(3)", w.count(3), 3);
    }

    private static void putOfBackdrops() {
        WorldMake w = Due.world(BACKDROP, ROOM, ROOM, ROOM, ROOM, ROOM, ROOM, ROOM);
        for (int k = 0; k < 6; k++) {
            due.is("put(0, " + (7 - k) + ")", w.put(0, 7 - k), k);
        }
        due.is("put(0, 7) again", w.put(0, 7), STATE);
        due.is("put(0, 1): the seventh", w.put(0, 1), FULL);
        for (int k = 0; k < 6; k++) {
            due.is("place(0, " + k + ")", w.place(0, k), 7 - k);
        }
        due.is("place(0, 6)", w.place(0, 6), NONE);
        due.is("bar(0, 1)", w.bar(0, 1), 6);
        due.is("put(0, 1): full ahead of the bar", w.put(0, 1), FULL);
        due.is("bar(0, 5)", w.bar(0, 5), Due.against(2));
    }

    private static void putGoesAgainst() {
        WorldMake w = Due.world(ROOM, CARRIER, THING, THING, BACKDROP, THING);
        due.is("put(2, 0)", w.put(2, 0), 0);
        due.is("put(2, 1): elsewhere", w.put(2, 1), Due.against(0));
        due.is("bar(3, 1)", w.bar(3, 1), 1);
        due.is("bar(3, 1) once more", w.bar(3, 1), 2);
        due.is("put(3, 1): the first bar", w.put(3, 1), Due.against(1));
        due.is("bar(4, 0)", w.bar(4, 0), 3);
        due.is("put(4, 0): a barred backdrop", w.put(4, 0), Due.against(3));
        due.is("among(3, {0})", w.among(3, 1), 4);
        due.is("put(3, 1): still the bar", w.put(3, 1), Due.against(1));
        due.is("among(5, {0, 1})", w.among(5, 3), 5);
        due.is("among(5, {0})", w.among(5, 1), 6);
        due.is("put(5, 1): the latest among", w.put(5, 1), Due.against(6));
        due.is("pair(5, 2, false)", w.pair(5, 2, false), 7);
        due.is("pair(2, 5, false)", w.pair(2, 5, false), 8);
        due.is("put(5, 0): the first pair", w.put(5, 0), Due.against(7));
        due.is("place(5, 0)", w.place(5, 0), NONE);
        due.is("pair(1, 2, true)", w.pair(1, 2, true), 9);
        due.is("put(1, 0): with the other", w.put(1, 0), 10);
    }

    private static void putGoesAgainstTheFirstOfThese() {
        WorldMake w = Due.world(ROOM, ROOM, THING, THING, THING, BACKDROP);
        due.is("most(0, 1)", w.most(0, 1), 0);
        due.is("put(2, 0)", w.put(2, 0), 1);
        due.is("pair(3, 2, false)", w.pair(3, 2, false), 2);
        due.is("put(3, 0): most ahead of pair", w.put(3, 0), Due.against(0));
        due.is("among(3, {1})", w.among(3, 2), 3);
        due.is("put(3, 0): among ahead of most", w.put(3, 0), Due.against(3));
        due.is("bar(3, 0)", w.bar(3, 0), 4);
        due.is("put(3, 0): bar ahead of among", w.put(3, 0), Due.against(4));
        due.is("put(3, 1)", w.put(3, 1), 5);
        due.is("put(3, 0): put ahead of bar", w.put(3, 0), Due.against(5));
        due.is("put(5, 0): most lets backdrops", w.put(5, 0), 6);
        due.is("most(1, 1): none behind the first", w.most(1, 1), 7);
        due.is("put(4, 1): as many already", w.put(4, 1), Due.against(7));
        due.is("pair(4, 3, true)", w.pair(4, 3, true), 8);
        due.is("put(4, 0)", w.put(4, 0), Due.against(0));
    }

    private static void barRefusesAndGoesAgainst() {
        WorldMake w = Due.world(ROOM, CARRIER, THING, DOOR, BACKDROP, ROOM);
        due.is("bar(6, 0)", w.bar(6, 0), UNKNOWN);
        due.is("bar(2, 6)", w.bar(2, 6), UNKNOWN);
        due.is("bar(-1, 0)", w.bar(-1, 0), UNKNOWN);
        due.is("bar(2, -1)", w.bar(2, -1), UNKNOWN);
        due.is("bar(0, 1): a room", w.bar(0, 1), STATE);
        due.is("bar(3, 0): a door", w.bar(3, 0), STATE);
        due.is("bar(2, 3): no holder", w.bar(2, 3), STATE);
        due.is("bar(2, 4): no holder", w.bar(2, 4), STATE);
        due.is("put(2, 1)", w.put(2, 1), 0);
        due.is("bar(2, 1)", w.bar(2, 1), Due.against(0));
        due.is("bar(2, 0)", w.bar(2, 0), 1);
        due.is("put(4, 0)", w.put(4, 0), 2);
        due.is("put(4, 5)", w.put(4, 5), 3);
        due.is("bar(4, 5): the put there", w.bar(4, 5), Due.against(3));
        due.is("bar(4, 1): a backdrop, a carrier", w.bar(4, 1), 4);
        due.is("among(1, {0, 5})", w.among(1, 33), 5);
        due.is("among(1, {0, 5}) again", w.among(1, 33), 6);
        due.is("bar(1, 1): not of its set", w.bar(1, 1), 7);
        due.is("set(1)", w.set(1), 33);
        due.is("bar(1, 5)", w.bar(1, 5), 8);
        due.is("set(1) without 5", w.set(1), 1);
        due.is("bar(1, 0): nothing left", w.bar(1, 0), Due.against(6));
        due.is("set(1) stays", w.set(1), 1);
        due.is("bar(1, 5) again", w.bar(1, 5), 9);
    }

    private static void giveRefuses() {
        WorldMake w = Due.world(THING, ROOM, PERSON);
        int p = w.property(CARRIER, 4, 0);
        int q = w.property(THING, 8, CARRIER);
        due.is("give(3, p, 1)", w.give(3, p, 1), UNKNOWN);
        due.is("give(-1, p, 1)", w.give(-1, p, 1), UNKNOWN);
        due.is("give(2, 2, 1)", w.give(2, 2, 1), UNKNOWN);
        due.is("give(2, -1, 1)", w.give(2, -1, 1), UNKNOWN);
        due.is("give(0, q, 3)", w.give(0, q, 3), UNKNOWN);
        due.is("give(0, q, -1)", w.give(0, q, -1), UNKNOWN);
        due.is("give(0, q, 2^32)", w.give(0, q, 1L << 32), UNKNOWN);
        due.is("give(0, p, 1)", w.give(0, p, 1), STATE);
        due.is("give(1, p, 1)", w.give(1, p, 1), STATE);
        due.is("give(0, q, 1): a room", w.give(0, q, 1), Due.STORE);
        due.is("fault()", w.fault(), 4);
        due.is("given(0, q)", w.given(0, q), NONE);
        due.is("give(0, q, 2): a person", w.give(0, q, 2), 0);
        due.is("value(0, q)", w.value(0, q), 2);
        due.is("give(0, q, 1): store ahead of against", w.give(0, q, 1), Due.STORE);
        due.is("give(0, q, NONE)", w.give(0, q, NONE), Due.against(0));
        due.is("give(1, q, NONE)", w.give(1, q, NONE), 1);
        due.is("give(1, q, 2): nothing was given", w.give(1, q, 2), Due.against(1));
        due.is("value(1, q)", w.value(1, q), NONE);
        due.is("value(0, p)", w.value(0, p), STATE);
        due.is("value(3, p)", w.value(3, p), UNKNOWN);
        due.is("value(2, 2)", w.value(2, 2), UNKNOWN);
        due.is("value(-1, p)", w.value(-1, p), UNKNOWN);
        due.is("value(2, -1)", w.value(2, -1), UNKNOWN);
        due.is("given(0, p)", w.given(0, p), NONE);
        due.is("given(3, p)", w.given(3, p), UNKNOWN);
        due.is("given(0, 2)", w.given(0, 2), UNKNOWN);
        due.is("given(-1, p)", w.given(-1, p), UNKNOWN);
        due.is("given(0, -1)", w.given(0, -1), UNKNOWN);
    }

    private static void giveGoesAgainst() {
        WorldMake w = Due.world(THING, THING);
        int bytes = w.property(THING, 1, 0);
        int truths = w.property(THING, 0, 0);
        w.usual(THING, bytes, 9);
        due.is("value(0, bytes): usual", w.value(0, bytes), 9);
        due.is("give(0, bytes, 5)", w.give(0, bytes, 5), 0);
        due.is("give(0, truths, 7)", w.give(0, truths, 7), 1);
        due.is("give(0, bytes, 256 + 5): told alike", w.give(0, bytes, 261), 2);
        due.is("given(0, bytes): the latest", w.given(0, bytes), 2);
        due.is("give(0, bytes, 6)", w.give(0, bytes, 6), Due.against(2));
        due.is("value(0, bytes)", w.value(0, bytes), 5);
        due.is("give(0, truths, -1): told alike", w.give(0, truths, -1), 3);
        due.is("give(0, truths, 0)", w.give(0, truths, 0), Due.against(3));
        due.is("give(1, bytes, 0): to another", w.give(1, bytes, 0), 4);
        due.is("value(1, bytes): given ahead of usual", w.value(1, bytes), 0);
        due.is("give(1, bytes, 1): 0 was given", w.give(1, bytes, 1), Due.against(4));
        due.is("given(1, truths)", w.given(1, truths), NONE);
        due.is("sentence(0, 0)", w.sentence(0, 0), 2);
    }

    private static void lanesTell() {
        long[] values = {0, 1, -1, 127, 128, 255, 256, -129, 32767, 32768, 65535, 65536, -65537, 16777217, -16777217,
            2147483647L, 2147483648L, -2147483649L, 9007199254740993L, Long.MAX_VALUE, Long.MIN_VALUE, -9, 4};
        for (long v : values) {
            WorldMake w = Due.world(THING);
            long[] wants = {v != 0 ? 1 : 0, (byte) v, (short) v, (char) v, (int) v, v, (long) (float) v,
                (long) (double) v};
            for (int lane = 0; lane < 8; lane++) {
                w.property(THING, lane, 0);
                due.is("give of " + v + " in lane " + lane, w.give(0, lane, v), lane);
                due.is("value of " + v + " in lane " + lane, w.value(0, lane), wants[lane]);
                due.is("peek of " + v + " in lane " + lane, w.peek(lane, lane, 0), wants[lane]);
            }
            for (int lane = 0; lane < 8; lane++) {
                due.is("what it told, in lane " + lane, w.give(0, lane, wants[lane]), 8 + lane);
            }
        }
        WorldMake w = Due.world(THING);
        w.property(THING, 6, 0);
        w.property(THING, 7, 0);
        due.is("give a float", w.give(0, 0, 16777217), 0);
        due.is("the nearest float", w.value(0, 0), 16777216);
        due.is("the same float", w.give(0, 0, 16777216), 1);
        due.is("another float", w.give(0, 0, 16777218), Due.against(1));
        due.is("give a double", w.give(0, 1, 9007199254740993L), 2);
        due.is("the nearest double", w.value(0, 1), 9007199254740992L);
    }

    private static void peeks() {
        WorldMake w = Due.world(THING, ROOM);
        for (int lane = 0; lane < 9; lane++) {
            w.property(THING, lane, THING);
            due.is("peek without, lane " + lane, w.peek(lane, lane, 63), lane == 8 ? NONE : 0);
            for (int other = 0; other < 9; other++) {
                if (other != lane) {
                    due.is("peek(" + lane + ", " + other + ")", w.peek(lane, other, 0), Due.CAST);
                }
            }
        }
        due.is("fault()", w.fault(), 3);
        due.is("peek(9, 0, 0)", w.peek(9, 0, 0), UNKNOWN);
        due.is("peek(-1, 0, 0)", w.peek(-1, 0, 0), UNKNOWN);
        due.is("peek(9, 9, 0)", w.peek(9, 9, 0), UNKNOWN);
        due.is("peek(0, 9, 0)", w.peek(0, 9, 0), OUTSIDE);
        due.is("peek(0, -1, 64)", w.peek(0, -1, 64), OUTSIDE);
        due.is("peek(0, 1, 64): cast ahead of index", w.peek(0, 1, 64), Due.CAST);
        due.is("peek(0, 0, 64)", w.peek(0, 0, 64), Due.INDEX);
        due.is("fault()", w.fault(), 2);
        due.is("peek(0, 0, -1)", w.peek(0, 0, -1), Due.INDEX);
        w.give(1, 8, 0);
        due.is("peek(8, 8, 1)", w.peek(8, 8, 1), 0);
        due.is("peek(8, 8, 0)", w.peek(8, 8, 0), NONE);
    }

    private static void placesAsTold() {
        WorldMake w = Due.world(ROOM, THING);
        due.is("place(1, 0) ahead", w.place(1, 0), NONE);
        w.put(1, 0);
        due.is("place(1, 0)", w.place(1, 0), 0);
        due.is("place(1, 1)", w.place(1, 1), NONE);
        due.is("place(1, -1)", w.place(1, -1), NONE);
        due.is("place(1, max)", w.place(1, Integer.MAX_VALUE), NONE);
        due.is("place(0, 0)", w.place(0, 0), NONE);
        due.is("place(2, 0)", w.place(2, 0), UNKNOWN);
        due.is("place(-1, 0)", w.place(-1, 0), UNKNOWN);
    }

    private static void bulks() {
        WorldMake w = new WorldMake();
        int room = w.thing(ROOM, 500);
        int door = w.thing(DOOR, 7);
        int drop = w.thing(BACKDROP, 90);
        int box = w.thing(CARRIER, 4);
        int man = w.thing(PERSON, 20);
        int stone = w.thing(THING, 3);
        due.is("bulk of a stone", w.says(stone, 0), 3);
        due.is("bulk of a door", w.says(door, 0), 14);
        due.is("bulk of a backdrop", w.says(drop, 0), 0);
        due.is("bulk of a box", w.says(box, 0), 4);
        due.is("bulk of a person", w.says(man, 0), 30);
        due.is("bulk of a room", w.says(room, 0), 0);
        w.put(stone, box);
        due.is("bulk of the box, stone within", w.says(box, 0), 7);
        w.put(man, box);
        due.is("bulk of the box, person within", w.says(box, 0), 37);
        due.is("load of the box", w.says(box, 2), 33);
        w.put(box, room);
        w.put(drop, room);
        due.is("load of the room", w.says(room, 2), 37);
        due.is("bulk of the room", w.says(room, 0), 37);
        due.is("load of the person", w.says(man, 2), 0);
        due.is("load of a stone", w.says(stone, 2), Due.CAST);
        due.is("load of a door", w.says(door, 2), Due.CAST);
        due.is("load of a backdrop", w.says(drop, 2), Due.CAST);
        due.is("fault()", w.fault(), 3);
        w.remark(stone, 0, 999);
        due.is("a mark is no size", w.says(stone, 0), 3);
        deepBulk();
    }

    private static void deepBulk() {
        WorldMake w = new WorldMake();
        for (int k = 0; k < 64; k++) {
            w.thing(PERSON, 1000);
        }
        for (int k = 0; k < 63; k++) {
            due.is("put(" + k + ")", w.put(k, k + 1), k);
        }
        due.is("bulk of all", w.says(63, 0), 64 * 1010);
        due.is("load of all but one", w.says(63, 2), 63 * 1010);
        due.is("put(63, 0): within itself", w.put(63, 0), STATE);
    }

    private static void worths() {
        WorldMake w = new WorldMake();
        int[] wants = {31, 1031, 131, -31, 31, 62};
        for (int kind = 0; kind < 6; kind++) {
            w.thing(kind, 10);
            due.is("worth of kind " + kind, w.says(kind, 1), wants[kind]);
        }
        due.is("says(6, 1)", w.says(6, 1), UNKNOWN);
        due.is("says(-1, 1)", w.says(-1, 1), UNKNOWN);
        due.is("says(6, 5)", w.says(6, 5), UNKNOWN);
        due.is("says(0, 5)", w.says(0, 5), OUTSIDE);
        due.is("says(0, -1)", w.says(0, -1), OUTSIDE);
        due.is("worth of a backdrop of size 4 is no fault", w.says(w.thing(BACKDROP, 4), 1), -13);
        due.is("fault()", w.fault(), 0);
    }

    private static void lidsAndStrides() {
        WorldMake w = new WorldMake();
        for (int kind = 0; kind < 6; kind++) {
            w.thing(kind, 6);
        }
        int[] shut = {Due.CAST, Due.CAST, 60, Due.CAST, 6, 6};
        int[] ajar = {Due.CAST, Due.CAST, 61, Due.CAST, 1006, 1006};
        int[] marked = {Due.CAST, Due.CAST, 91, Due.CAST, 1009, 1009};
        for (int k = 0; k < 6; k++) {
            due.is("lid of " + k, w.says(k, 3), shut[k]);
            w.open(k, true);
            due.is("open lid of " + k, w.says(k, 3), ajar[k]);
            w.remark(k, 0, 8);
            due.is("a mark as a thing is not in the lid of " + k, w.says(k, 3), ajar[k]);
            w.remark(k, 1, 9);
            due.is("marked lid of " + k, w.says(k, 3), marked[k]);
        }
        for (int k = 0; k < 5; k++) {
            due.is("stride of " + k, w.says(k, 4), Due.CAST);
        }
        due.is("stride without load", w.says(5, 4), Due.QUOTIENT);
        due.is("fault()", w.fault(), 6);
        w.put(0, 5);
        due.is("stride", w.says(5, 4), 166);
        w.put(w.thing(THING, 2), 5);
        due.is("stride, load 8", w.says(5, 4), 125);
        w.put(w.thing(THING, 992), 5);
        due.is("stride, load 1000", w.says(5, 4), 1);
        w.put(w.thing(THING, 1), 5);
        due.is("stride cut to 0", w.says(5, 4), 0);
        int feather = w.thing(THING, 0);
        int other = w.thing(PERSON, 0);
        w.put(feather, other);
        due.is("stride, load of size 0", w.says(other, 4), Due.QUOTIENT);
        w.put(w.thing(THING, 1), other);
        due.is("stride, load 1", w.says(other, 4), 1000);
    }

    private static void follows() {
        WorldMake w = Due.world(THING, PERSON, ROOM);
        int p = w.property(THING, 8, THING);
        int q = w.property(THING, 4, THING);
        int r = w.property(ROOM, 8, THING);
        due.is("follow(3, p, 0)", w.follow(3, p, 0), UNKNOWN);
        due.is("follow(-1, p, 0)", w.follow(-1, p, 0), UNKNOWN);
        due.is("follow(0, 3, 0)", w.follow(0, 3, 0), UNKNOWN);
        due.is("follow(0, -1, 9)", w.follow(0, -1, 9), UNKNOWN);
        due.is("follow(0, p, 5)", w.follow(0, p, 5), OUTSIDE);
        due.is("follow(0, r, -1): outside ahead of state", w.follow(0, r, -1), OUTSIDE);
        due.is("follow(0, r, 0)", w.follow(0, r, 0), STATE);
        due.is("fault() so far", w.fault(), 0);
        due.is("follow(0, q, 0)", w.follow(0, q, 0), Due.CAST);
        due.is("fault()", w.fault(), 3);
        due.is("follow(0, p, 0)", w.follow(0, p, 0), Due.NULL);
        due.is("fault()", w.fault(), 1);
        w.usual(THING, p, 1);
        due.is("follow the usual", w.follow(0, p, 0), 11);
        due.is("follow to a stride", w.follow(0, p, 4), Due.QUOTIENT);
        due.is("fault()", w.fault(), 6);
        w.give(0, p, 0);
        due.is("follow to itself", w.follow(0, p, 1), 4);
        due.is("follow to a lid", w.follow(0, p, 3), Due.CAST);
        w.give(2, p, NONE);
        due.is("follow what was given as nothing", w.follow(2, p, 0), Due.NULL);
    }

    private static void marks() {
        WorldMake w = new WorldMake();
        for (int kind = 0; kind < 6; kind++) {
            w.thing(kind, 5);
            boolean own = kind == DOOR || kind >= CARRIER;
            due.is("mark(" + kind + ", 0)", w.mark(kind, 0), 5);
            due.is("mark(" + kind + ", 1)", w.mark(kind, 1), own ? 5 : Due.CAST);
            due.is("remark(" + kind + ", 1, 8)", w.remark(kind, 1, 8), own ? 5 : Due.CAST);
            due.is("mark(" + kind + ", 0) stays", w.mark(kind, 0), 5);
            due.is("remark(" + kind + ", 0, 1000)", w.remark(kind, 0, 1000), 5);
            due.is("mark(" + kind + ", 0) anew", w.mark(kind, 0), 1000);
            due.is("mark(" + kind + ", 1) anew", w.mark(kind, 1), own ? 8 : Due.CAST);
            due.is("remark(" + kind + ", 1, 8) again", w.remark(kind, 1, 8), own ? 8 : Due.CAST);
        }
        due.is("remark(0, 0, 0)", w.remark(0, 0, 0), 1000);
        due.is("mark(6, 0)", w.mark(6, 0), UNKNOWN);
        due.is("mark(-1, 2)", w.mark(-1, 2), UNKNOWN);
        due.is("mark(0, 2)", w.mark(0, 2), OUTSIDE);
        due.is("mark(0, -1)", w.mark(0, -1), OUTSIDE);
        due.is("remark(6, 0, 0)", w.remark(6, 0, 0), UNKNOWN);
        due.is("remark(-1, 2, 0)", w.remark(-1, 2, 0), UNKNOWN);
        due.is("remark(0, 2, 0)", w.remark(0, 2, 0), OUTSIDE);
        due.is("remark(0, -1, 0)", w.remark(0, -1, 0), OUTSIDE);
        due.is("remark(2, 1, -1)", w.remark(2, 1, -1), OUTSIDE);
        due.is("remark(2, 1, 1001)", w.remark(2, 1, 1001), OUTSIDE);
        due.is("remark(0, 1, 1001): outside ahead of cast", w.remark(0, 1, 1001), OUTSIDE);
        due.is("mark(2, 1)", w.mark(2, 1), 8);
        due.is("fault()", w.fault(), 3);
    }

    private static void opens() {
        WorldMake w = Due.world(THING, ROOM, DOOR, BACKDROP, CARRIER, PERSON);
        int[] lidded = {DOOR, CARRIER, PERSON};
        for (int k : lidded) {
            due.is("open(" + k + ", true)", w.open(k, true), 0);
            due.is("open(" + k + ", true) again", w.open(k, true), 1);
            due.is("open(" + k + ", false)", w.open(k, false), 1);
            due.is("open(" + k + ", false) again", w.open(k, false), 0);
        }
        due.is("fault() so far", w.fault(), 0);
        due.is("open(0, true)", w.open(THING, true), Due.CAST);
        due.is("open(1, true)", w.open(ROOM, true), Due.CAST);
        due.is("open(3, true)", w.open(BACKDROP, true), Due.CAST);
        due.is("fault()", w.fault(), 3);
        due.is("open(6, true)", w.open(6, true), UNKNOWN);
        due.is("open(-1, true)", w.open(-1, true), UNKNOWN);
    }

    private static void derivedKinds() {
        WorldMake w = new WorldMake();
        int hall = w.kind(w.kind(ROOM));
        int gate = w.kind(DOOR);
        int sky = w.kind(BACKDROP);
        int king = w.kind(w.kind(PERSON));
        int room = w.thing(hall, 2);
        int door = w.thing(gate, 2);
        int drop = w.thing(sky, 2);
        int man = w.thing(king, 2);
        due.is("worth of a hall", w.says(room, 1), 1007);
        due.is("worth of a gate", w.says(door, 1), 107);
        due.is("worth of a sky", w.says(drop, 1), -7);
        due.is("worth of a king", w.says(man, 1), 14);
        due.is("put(man, room)", w.put(man, room), 0);
        due.is("put(drop, man)", w.put(drop, man), STATE);
        due.is("put(drop, room)", w.put(drop, room), 1);
        due.is("put(door, room)", w.put(door, room), STATE);
        due.is("exit(room, 0, room)", w.exit(room, 0, room), 2);
        due.is("stride of a king", w.says(man, 4), Due.QUOTIENT);
    }

    private static void fullAtThreeHundred() {
        WorldMake w = Due.world(ROOM, THING, CARRIER, BACKDROP);
        int p = w.property(THING, 8, ROOM);
        w.put(1, 2);
        Due.tellUntil(w, 299, 3, 0);
        due.is("the last sentence", w.give(1, p, 0), 299);
        due.is("put(2, 0)", w.put(2, 0), FULL);
        due.is("put(1, 0): full ahead of against", w.put(1, 0), FULL);
        due.is("put(1, 2): state ahead of full", w.put(1, 2), STATE);
        due.is("bar(1, 0)", w.bar(1, 0), FULL);
        due.is("bar(1, 2): full ahead of against", w.bar(1, 2), FULL);
        due.is("bar(0, 0): state ahead of full", w.bar(0, 0), STATE);
        due.is("give(2, p, 0)", w.give(2, p, 0), FULL);
        due.is("give(1, p, NONE): full ahead of against", w.give(1, p, NONE), FULL);
        due.is("give(2, p, 1): full ahead of store", w.give(2, p, 1), FULL);
        due.is("fault()", w.fault(), 0);
        due.is("count(3)", w.count(3), 300);
    }
}
