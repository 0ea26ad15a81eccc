/** Promises 36 to 40: shelves. */
public final class ShelvesTest {
    private static final int UNKNOWN = -1, OUTSIDE = -2, FULL = -4, NONE = -9;
    private static final int THING = 0, ROOM = 1, CARRIER = 4, PERSON = 5;
    private static final int MAX = Integer.MAX_VALUE, MIN = Integer.MIN_VALUE;
    private static final Due due = new Due("ShelvesTest");

    public static void main(String[] args) {
        shelvesComeInOrder();
        stands();
        shelvesTakeABase();
        hauls();
        haulsWithinOne();
        haulsBeyond();
        haulsThatAreNotTaken();
        due.end();
    }

    private static void shelvesComeInOrder() {
        WorldMake w = new WorldMake();
        due.is("shelf(6, 1)", w.shelf(6, 1), UNKNOWN);
        due.is("shelf(-1, 17)", w.shelf(-1, 17), UNKNOWN);
        due.is("shelf(0, 17)", w.shelf(0, 17), OUTSIDE);
        due.is("fault() so far", w.fault(), 0);
        due.is("shelf(0, -1)", w.shelf(0, -1), Due.SIZE);
        due.is("fault()", w.fault(), 5);
        due.is("shelf(0, MIN)", w.shelf(0, MIN), Due.SIZE);
        for (int k = 0; k < 10; k++) {
            due.is("shelf number " + k, w.shelf(k % 6, k == 0 ? 16 : 0), k);
        }
        due.is("shelf(0, 1) when full", w.shelf(0, 1), FULL);
        due.is("shelf(0, -1): full ahead of size", w.shelf(0, -1), FULL);
        due.is("shelf(0, 17): outside ahead of full", w.shelf(0, 17), OUTSIDE);
        due.is("count(5)", w.count(5), 10);
    }

    private static void stands() {
        WorldMake w = Due.world(THING, ROOM);
        w.shelf(THING, 3);
        w.shelf(THING, 0);
        for (int i = 0; i < 3; i++) {
            due.is("stands(0, " + i + ") at first", w.stands(0, i), NONE);
        }
        due.is("stand(2, 0, 0)", w.stand(2, 0, 0), UNKNOWN);
        due.is("stand(-1, 0, 0)", w.stand(-1, 0, 0), UNKNOWN);
        due.is("stand(0, 9, 2): unknown ahead of index", w.stand(0, 9, 2), UNKNOWN);
        due.is("stand(0, 0, -1)", w.stand(0, 0, -1), UNKNOWN);
        due.is("stands(2, 9)", w.stands(2, 9), UNKNOWN);
        due.is("stands(-1, 0)", w.stands(-1, 0), UNKNOWN);
        due.is("fault() so far", w.fault(), 0);
        due.is("stand(0, 3, 0)", w.stand(0, 3, 0), Due.INDEX);
        due.is("fault()", w.fault(), 2);
        due.is("stand(0, -1, NONE)", w.stand(0, -1, NONE), Due.INDEX);
        due.is("stand(1, 0, 0)", w.stand(1, 0, 0), Due.INDEX);
        due.is("stands(0, 3)", w.stands(0, 3), Due.INDEX);
        due.is("stands(0, -1)", w.stands(0, -1), Due.INDEX);
        due.is("stands(1, 0)", w.stands(1, 0), Due.INDEX);
        due.is("stand(0, 2, 1)", w.stand(0, 2, 1), 1);
        due.is("stands(0, 2)", w.stands(0, 2), 1);
        due.is("stand(0, 2, 0)", w.stand(0, 2, 0), 1);
        due.is("stands(0, 2) anew", w.stands(0, 2), 0);
        due.is("stand(0, 0, 0): at two places", w.stand(0, 0, 0), 1);
        due.is("stand(0, 2, NONE)", w.stand(0, 2, NONE), 1);
        due.is("stands(0, 2) nothing", w.stands(0, 2), NONE);
        due.is("stands(0, 0)", w.stands(0, 0), 0);
        due.is("no sentences", w.count(3), 0);
    }

    private static void shelvesTakeABase() {
        WorldMake w = new WorldMake();
        int box = w.kind(CARRIER);
        for (int kind = 0; kind < 6; kind++) {
            w.thing(kind, 0);
            w.shelf(kind, 2);
        }
        w.shelf(box, 2);
        for (int shelf = 0; shelf < 7; shelf++) {
            int base = shelf == 6 ? CARRIER : shelf;
            for (int kind = 0; kind < 6; kind++) {
                boolean fits = w.is(kind, base) == 1;
                due.is("stand(" + shelf + ", 1, " + kind + ")", w.stand(shelf, 1, kind), fits ? 1 : Due.STORE);
                due.is("stands(" + shelf + ", 1)", w.stands(shelf, 1), fits ? kind : NONE);
                w.stand(shelf, 1, NONE);
            }
        }
        due.is("fault()", w.fault(), 4);
        due.is("stand(1, 2, 0): index ahead of store", w.stand(1, 2, 0), Due.INDEX);
    }

    private static void check(WorldMake w, int shelf, int... wants) {
        for (int i = 0; i < wants.length; i++) {
            due.is("stands(" + shelf + ", " + i + ")", w.stands(shelf, i), wants[i]);
        }
    }

    private static void hauls() {
        WorldMake w = Due.world(THING, THING, THING, THING);
        w.shelf(THING, 5);
        w.shelf(THING, 4);
        due.is("came() ahead of any", w.came(), 0);
        for (int i = 0; i < 4; i++) {
            w.stand(0, i, i);
        }
        due.is("haul(0, 1, 1, 0, 3)", w.haul(0, 1, 1, 0, 3), 3);
        due.is("came()", w.came(), 3);
        check(w, 1, 1, 2, 3, NONE);
        check(w, 0, 0, 1, 2, 3, NONE);
        due.is("haul(0, 4, 1, 1, 1): nothing comes, too", w.haul(0, 4, 1, 1, 1), 1);
        check(w, 1, 1, NONE, 3, NONE);
        due.is("haul of none", w.haul(0, 5, 1, 4, 0), 0);
        due.is("came() of none", w.came(), 0);
    }

    private static void haulsWithinOne() {
        WorldMake w = Due.world(THING, THING, THING, THING);
        w.shelf(THING, 5);
        for (int i = 0; i < 4; i++) {
            w.stand(0, i, i);
        }
        due.is("haul(0, 0, 0, 1, 4): up", w.haul(0, 0, 0, 1, 4), 4);
        check(w, 0, 0, 0, 1, 2, 3);
        due.is("haul(0, 2, 0, 0, 3): down", w.haul(0, 2, 0, 0, 3), 3);
        check(w, 0, 1, 2, 3, 2, 3);
        due.is("haul onto itself", w.haul(0, 0, 0, 0, 5), 5);
        check(w, 0, 1, 2, 3, 2, 3);
    }

    private static void haulsBeyond() {
        WorldMake w = Due.world(THING, THING);
        w.shelf(THING, 4);
        w.shelf(THING, 2);
        w.stand(0, 0, 1);
        due.is("haul(2, 0, 0, 0, 1)", w.haul(2, 0, 0, 0, 1), UNKNOWN);
        due.is("haul(0, 0, 2, 0, 1)", w.haul(0, 0, 2, 0, 1), UNKNOWN);
        due.is("haul(-1, 0, 0, 0, -1)", w.haul(-1, 0, 0, 0, -1), UNKNOWN);
        due.is("haul(0, 0, -1, 0, -1)", w.haul(0, 0, -1, 0, -1), UNKNOWN);
        due.is("haul of one", w.haul(0, 0, 1, 0, 1), 1);
        due.is("fault() so far", w.fault(), 0);
        int[][] beyond = {{0, 0, 1, 0, 3}, {0, 3, 1, 0, 2}, {0, 0, 1, 1, 2}, {0, -1, 1, 0, 1}, {0, 0, 1, -1, 1},
            {0, 0, 1, 0, -1}, {0, 5, 1, 0, 0}, {0, 0, 1, 3, 0}, {0, MAX, 1, 0, MAX}, {0, 0, 1, MAX, MAX},
            {0, 1, 1, 1, MAX}, {0, MIN, 1, 0, MIN}, {0, -1, 1, 0, 0}, {0, 0, 1, -1, 0}, {0, MAX, 1, 0, 1}};
        for (int[] x : beyond) {
            due.is("haul beyond", w.haul(x[0], x[1], x[2], x[3], x[4]), Due.INDEX);
        }
        due.is("fault()", w.fault(), 2);
        due.is("came() stays", w.came(), 1);
        check(w, 0, 1, NONE, NONE, NONE);
        check(w, 1, 1, NONE);
    }

    private static void haulsThatAreNotTaken() {
        WorldMake w = Due.world(CARRIER, PERSON, ROOM, CARRIER, THING);
        w.shelf(THING, 5);
        w.shelf(CARRIER, 5);
        for (int i = 0; i < 5; i++) {
            w.stand(0, i, i);
            w.stand(1, i, 3);
        }
        due.is("haul(0, 0, 1, 1, 4)", w.haul(0, 0, 1, 1, 4), Due.STORE);
        due.is("fault()", w.fault(), 4);
        due.is("came()", w.came(), 2);
        check(w, 1, 3, 0, 1, 3, 3);
        due.is("haul of one that is not taken", w.haul(0, 4, 1, 0, 1), Due.STORE);
        due.is("came()", w.came(), 0);
        check(w, 1, 3, 0, 1, 3, 3);
        due.is("haul back", w.haul(1, 1, 0, 2, 3), 3);
        due.is("came()", w.came(), 3);
        check(w, 0, 0, 1, 0, 1, 3);
        w.stand(0, 0, NONE);
        due.is("nothing is taken by all", w.haul(0, 0, 1, 4, 1), 1);
        check(w, 1, 3, 0, 1, 3, NONE);
        due.is("haul unknown", w.haul(5, 0, 1, 0, 1), UNKNOWN);
        due.is("came() stays", w.came(), 1);
    }
}
