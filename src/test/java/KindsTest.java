/** Promises 1 to 5: a new object, kinds, properties, what is usual. */
public final class KindsTest {
    private static final int UNKNOWN = -1, OUTSIDE = -2, STATE = -3, FULL = -4, NONE = -9;
    private static final Due due = new Due("KindsTest");

    public static void main(String[] args) {
        newObject();
        kindsComeInOrder();
        kindsAreTheirParents();
        propertiesComeInOrder();
        usualsAreOfTheNearestKind();
        usualsComeIntoLanes();
        usualThings();
        due.end();
    }

    private static void newObject() {
        WorldMake w = new WorldMake();
        int[] counts = {6, 0, 0, 0, 0, 0, 0, 0, 0, 0};
        for (int what = 0; what < counts.length; what++) {
            due.is("count(" + what + ")", w.count(what), counts[what]);
        }
        due.is("fault()", w.fault(), 0);
        due.is("came()", w.came(), 0);
        due.is("digest()", w.digest(), 17);
        due.is("word(0)", w.word(0), NONE);
        due.is("sentence(0, 0)", w.sentence(0, 0), UNKNOWN);
        due.is("set(0)", w.set(0), 0);
        due.is("clear()", w.clear(), 0);
    }

    private static void kindsComeInOrder() {
        WorldMake w = new WorldMake();
        due.is("kind(6) ahead of it", w.kind(6), UNKNOWN);
        due.is("kind(-1)", w.kind(-1), UNKNOWN);
        for (int k = 6; k < 24; k++) {
            due.is("kind number " + k, w.kind(k - 1), k);
        }
        due.is("kind(0) when full", w.kind(0), FULL);
        due.is("kind(24) when full", w.kind(24), UNKNOWN);
        due.is("count(0)", w.count(0), 24);
        due.is("is(23, 5)", w.is(23, 5), 1);
        due.is("is(23, 0)", w.is(23, 0), 1);
        due.is("is(5, 23)", w.is(5, 23), 0);
        due.is("is(23, 24)", w.is(23, 24), UNKNOWN);
    }

    private static void kindsAreTheirParents() {
        WorldMake w = new WorldMake();
        int[][] others = {{0}, {0, 1}, {0, 2}, {0, 3}, {0, 4}, {0, 4, 5}};
        for (int kind = 0; kind < 6; kind++) {
            for (int other = 0; other < 6; other++) {
                int want = 0;
                for (int one : others[kind]) {
                    want = one == other ? 1 : want;
                }
                due.is("is(" + kind + ", " + other + ")", w.is(kind, other), want);
            }
        }
        w.kind(2);
        w.kind(6);
        w.kind(2);
        due.is("is(7, 6)", w.is(7, 6), 1);
        due.is("is(7, 2)", w.is(7, 2), 1);
        due.is("is(7, 8)", w.is(7, 8), 0);
        due.is("is(7, 7)", w.is(7, 7), 1);
        due.is("is(9, 0)", w.is(9, 0), UNKNOWN);
        due.is("is(0, 9)", w.is(0, 9), UNKNOWN);
        due.is("is(-1, 0)", w.is(-1, 0), UNKNOWN);
        due.is("is(0, -1)", w.is(0, -1), UNKNOWN);
    }

    private static void propertiesComeInOrder() {
        WorldMake w = new WorldMake();
        due.is("property(6, 0, 0)", w.property(6, 0, 0), UNKNOWN);
        due.is("property(-1, 0, 0)", w.property(-1, 0, 0), UNKNOWN);
        due.is("property(6, 9, 0)", w.property(6, 9, 0), UNKNOWN);
        due.is("property(0, 8, 6)", w.property(0, 8, 6), UNKNOWN);
        due.is("property(0, 8, -9)", w.property(0, 8, -9), UNKNOWN);
        due.is("property(0, 9, 0)", w.property(0, 9, 0), OUTSIDE);
        due.is("property(0, -1, 0)", w.property(0, -1, 0), OUTSIDE);
        due.is("property(0, 9, 99)", w.property(0, 9, 99), OUTSIDE);
        for (int p = 0; p < 12; p++) {
            due.is("property number " + p, w.property(0, p % 8, 99), p);
        }
        due.is("property(0, 8, 0) when full", w.property(0, 8, 0), FULL);
        due.is("property(0, 9, 0) when full", w.property(0, 9, 0), OUTSIDE);
        due.is("property(0, 8, 6) when full", w.property(0, 8, 6), UNKNOWN);
        due.is("count(1)", w.count(1), 12);
    }

    private static void usualsAreOfTheNearestKind() {
        WorldMake w = new WorldMake();
        int box = w.kind(4);
        int chest = w.kind(box);
        int thing = w.thing(chest, 3);
        int person = w.thing(5, 3);
        int p = w.property(4, 4, 0);
        due.is("value without", w.value(thing, p), 0);
        due.is("usual(4)", w.usual(4, p, 11), 1);
        due.is("value of a carrier", w.value(thing, p), 11);
        due.is("value of a person", w.value(person, p), 11);
        due.is("usual(chest)", w.usual(chest, p, 13), 1);
        due.is("value of a chest", w.value(thing, p), 13);
        due.is("usual(box) farther off", w.usual(box, p, 12), 1);
        due.is("value still of the chest", w.value(thing, p), 13);
        due.is("value of a person still", w.value(person, p), 11);
        due.is("usual(chest) anew", w.usual(chest, p, 0), 1);
        due.is("value 0 of the chest", w.value(thing, p), 0);
        due.is("usual of a parent", w.usual(0, p, 1), STATE);
        due.is("usual of another", w.usual(1, p, 1), STATE);
        due.is("usual of no kind", w.usual(8, p, 1), UNKNOWN);
        due.is("usual(-1)", w.usual(-1, p, 1), UNKNOWN);
        due.is("usual of no property", w.usual(4, 1, 1), UNKNOWN);
        due.is("usual of property -1", w.usual(4, -1, 1), UNKNOWN);
        due.is("usuals are no sentences", w.count(3), 0);
        due.is("given", w.given(thing, p), NONE);
        due.is("peek is of given ones alone", w.peek(p, 4, thing), 0);
    }

    private static void usualsComeIntoLanes() {
        WorldMake w = new WorldMake();
        int thing = w.thing(0, 0);
        long v = 0x1234_5678_9ABC_DEF1L;
        long[] wants = {1, (byte) v, (short) v, (char) v, (int) v, v, (long) (float) v, (long) (double) v};
        for (int lane = 0; lane < 8; lane++) {
            int p = w.property(0, lane, 0);
            due.is("usual into lane " + lane, w.usual(0, p, v), 1);
            due.is("value of lane " + lane, w.value(thing, p), wants[lane]);
        }
    }

    private static void usualThings() {
        WorldMake w = new WorldMake();
        int box = w.kind(4);
        int room = w.thing(1, 0);
        int person = w.thing(5, 0);
        int carrier = w.thing(4, 0);
        int stone = w.thing(0, 0);
        int p = w.property(0, 8, box);
        due.is("value without", w.value(stone, p), NONE);
        due.is("usual no thing", w.usual(0, p, 4), UNKNOWN);
        due.is("usual -1", w.usual(0, p, -1), UNKNOWN);
        due.is("usual far beyond an int", w.usual(0, p, 1L << 32), UNKNOWN);
        due.is("usual a room", w.usual(0, p, room), Due.STORE);
        due.is("fault()", w.fault(), 4);
        due.is("usual a plain thing", w.usual(0, p, stone), Due.STORE);
        due.is("a store changes nothing", w.value(stone, p), NONE);
        due.is("usual a carrier: the base alone counts", w.usual(0, p, carrier), 1);
        due.is("value", w.value(stone, p), carrier);
        due.is("usual a person for persons", w.usual(5, p, person), 1);
        due.is("value of the person", w.value(person, p), person);
        due.is("usual nothing for persons", w.usual(5, p, NONE), 1);
        due.is("nothing hides the farther usual", w.value(person, p), NONE);
        due.is("value of others", w.value(room, p), carrier);
        int q = w.property(1, 8, 0);
        due.is("unknown ahead of state", w.usual(0, q, 77), UNKNOWN);
        due.is("state ahead of store", w.usual(0, w.property(1, 8, 1), stone), STATE);
    }
}
