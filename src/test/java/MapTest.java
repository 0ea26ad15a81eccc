/** Promises 30 to 35: the map. */
public final class MapTest {
    private static final int UNKNOWN = -1, OUTSIDE = -2, STATE = -3, FULL = -4, NONE = -9;
    private static final int THING = 0, ROOM = 1, DOOR = 2;
    private static final Due due = new Due("MapTest");

    public static void main(String[] args) {
        unknownsAndOutsides();
        opposites();
        assumedOnes();
        toldOnesStay();
        exitsToNothing();
        doors();
        doorsGoAgainst();
        routes();
        leastDirection();
        shutDoors();
        longRoute();
        fullAtThreeHundred();
        due.end();
    }

    private static void unknownsAndOutsides() {
        WorldMake w = Due.world(ROOM, THING, ROOM, DOOR);
        int[] wrong = {1, 3, 4, -1, 64, Integer.MIN_VALUE};
        for (int x : wrong) {
            due.is("exit(" + x + ", 0, 0)", w.exit(x, 0, 0), UNKNOWN);
            due.is("exit(0, 0, " + x + ")", w.exit(0, 0, x), UNKNOWN);
            due.is("exit(" + x + ", 8, 0)", w.exit(x, 8, 0), UNKNOWN);
            due.is("door(3, " + x + ", 0, 0)", w.door(3, x, 0, 0), UNKNOWN);
            due.is("door(3, 0, 8, " + x + ")", w.door(3, 0, 8, x), UNKNOWN);
            due.is("leads(" + x + ", 8)", w.leads(x, 8), UNKNOWN);
            due.is("sort(" + x + ", 8)", w.sort(x, 8), UNKNOWN);
            due.is("route(" + x + ", 0)", w.route(x, 0, true), UNKNOWN);
            due.is("route(0, " + x + ")", w.route(0, x, true), UNKNOWN);
            due.is("first(" + x + ", 0)", w.first(x, 0, true), UNKNOWN);
            due.is("first(0, " + x + ")", w.first(0, x, true), UNKNOWN);
        }
        due.is("exit(NONE, 0, 0)", w.exit(NONE, 0, 0), UNKNOWN);
        due.is("door(4, 0, 0, 2)", w.door(4, 0, 0, 2), UNKNOWN);
        due.is("door(-1, 0, 0, 2)", w.door(-1, 0, 0, 2), UNKNOWN);
        due.is("door(3, 0, 0, NONE)", w.door(3, 0, 0, NONE), UNKNOWN);
        for (int d : new int[] {-1, 8, Integer.MAX_VALUE}) {
            due.is("exit(0, d, 2)", w.exit(0, d, 2), OUTSIDE);
            due.is("exit(0, d, NONE)", w.exit(0, d, NONE), OUTSIDE);
            due.is("door(3, 0, d, 2)", w.door(3, 0, d, 2), OUTSIDE);
            due.is("door(1, 0, d, 0): outside ahead of state", w.door(1, 0, d, 0), OUTSIDE);
            due.is("leads(0, d)", w.leads(0, d), OUTSIDE);
            due.is("sort(0, d)", w.sort(0, d), OUTSIDE);
        }
        due.is("door(1, 0, 0, 2): no door", w.door(1, 0, 0, 2), STATE);
        due.is("door(0, 0, 0, 2): no door", w.door(0, 0, 0, 2), STATE);
        due.is("door(3, 0, 0, 0): one room", w.door(3, 0, 0, 0), STATE);
        due.is("count(3)", w.count(3), 0);
        due.is("sort(0, 0)", w.sort(0, 0), 0);
        due.is("leads(0, 0)", w.leads(0, 0), NONE);
    }

    private static void opposites() {
        WorldMake w = Due.world(ROOM, ROOM);
        for (int d = 0; d < 8; d += 2) {
            due.is("exit(0, " + d + ", 1)", w.exit(0, d, 1), d / 2);
            due.is("sort(1, " + (d + 1) + ")", w.sort(1, d + 1), 1);
            due.is("leads(1, " + (d + 1) + ")", w.leads(1, d + 1), 0);
            due.is("sort(1, " + d + ")", w.sort(1, d), 0);
            due.is("sort(0, " + (d + 1) + ")", w.sort(0, d + 1), 0);
        }
        WorldMake x = Due.world(ROOM, ROOM);
        for (int d = 1; d < 8; d += 2) {
            due.is("exit(0, " + d + ", 1)", x.exit(0, d, 1), d / 2);
            due.is("sort(1, " + (d - 1) + ")", x.sort(1, d - 1), 1);
            due.is("leads(0, " + d + ")", x.leads(0, d), 1);
            due.is("sort(0, " + d + ")", x.sort(0, d), 2);
        }
    }

    private static void assumedOnes() {
        WorldMake w = Due.world(ROOM, ROOM, ROOM);
        due.is("exit(0, 4, 1)", w.exit(0, 4, 1), 0);
        due.is("exit(2, 4, 1): one is assumed already", w.exit(2, 4, 1), 1);
        due.is("leads(1, 5): the first one", w.leads(1, 5), 0);
        due.is("exit(1, 5, 2): told in its place", w.exit(1, 5, 2), 2);
        due.is("leads(1, 5)", w.leads(1, 5), 2);
        due.is("sort(1, 5)", w.sort(1, 5), 2);
        due.is("leads(2, 4): told, stays", w.leads(2, 4), 1);
        due.is("sort(2, 4)", w.sort(2, 4), 2);
        due.is("exit(0, 2, 1)", w.exit(0, 2, 1), 3);
        due.is("exit(1, 3, 0): what was assumed", w.exit(1, 3, 0), 4);
        due.is("sort(1, 3)", w.sort(1, 3), 2);
        due.is("exit(1, 3, 0) again", w.exit(1, 3, 0), STATE);
        due.is("exit(2, 6, 2): to itself", w.exit(2, 6, 2), 5);
        due.is("sort(2, 7)", w.sort(2, 7), 1);
        due.is("leads(2, 7)", w.leads(2, 7), 2);
        due.is("assumed ones are no sentences", w.count(3), 6);
    }

    private static void toldOnesStay() {
        WorldMake w = Due.world(ROOM, ROOM, ROOM);
        due.is("exit(0, 0, 1)", w.exit(0, 0, 1), 0);
        due.is("exit(0, 0, 2)", w.exit(0, 0, 2), Due.against(0));
        due.is("exit(0, 0, NONE)", w.exit(0, 0, NONE), Due.against(0));
        due.is("exit(1, 1, 2): in place of what was assumed", w.exit(1, 1, 2), 1);
        due.is("exit(1, 1, 0)", w.exit(1, 1, 0), Due.against(1));
        due.is("leads(1, 1)", w.leads(1, 1), 2);
    }

    private static void exitsToNothing() {
        WorldMake w = Due.world(ROOM, ROOM);
        due.is("exit(0, 0, NONE)", w.exit(0, 0, NONE), 0);
        due.is("sort(0, 0)", w.sort(0, 0), 4);
        due.is("leads(0, 0)", w.leads(0, 0), NONE);
        due.is("exit(0, 0, NONE) again", w.exit(0, 0, NONE), STATE);
        due.is("exit(0, 0, 1)", w.exit(0, 0, 1), Due.against(0));
        due.is("exit(1, 1, 0): none is assumed where nothing was told", w.exit(1, 1, 0), 1);
        due.is("sort(0, 0) stays", w.sort(0, 0), 4);
        due.is("exit(0, 2, 1)", w.exit(0, 2, 1), 2);
        due.is("exit(1, 3, NONE): in place of what was assumed", w.exit(1, 3, NONE), 3);
        due.is("sort(1, 3)", w.sort(1, 3), 4);
        due.is("leads(1, 3)", w.leads(1, 3), NONE);
    }

    private static void doors() {
        WorldMake w = Due.world(ROOM, ROOM, ROOM, DOOR, DOOR);
        due.is("exit(0, 2, 1)", w.exit(0, 2, 1), 0);
        due.is("door(3, 2, 2, 1): in place of what was assumed", w.door(3, 2, 2, 1), 1);
        due.is("sort(2, 2)", w.sort(2, 2), 3);
        due.is("sort(1, 3)", w.sort(1, 3), 3);
        due.is("leads(2, 2)", w.leads(2, 2), 1);
        due.is("leads(1, 3)", w.leads(1, 3), 2);
        due.is("exit(1, 3, 2): a door told it", w.exit(1, 3, 2), Due.against(1));
        due.is("exit(2, 2, 1): a door told it", w.exit(2, 2, 1), Due.against(1));
        due.is("exit(0, 4, 2)", w.exit(0, 4, 2), 2);
        due.is("door(4, 2, 5, 1): both assumed or none", w.door(4, 2, 5, 1), 3);
        due.is("leads(2, 5)", w.leads(2, 5), 1);
        due.is("leads(1, 4)", w.leads(1, 4), 2);
        due.is("sentence(3, 0)", w.sentence(3, 0), 9);
        due.is("sentence(3, 1)", w.sentence(3, 1), 4);
        due.is("sentence(3, 2)", w.sentence(3, 2), 2);
    }

    private static void doorsGoAgainst() {
        WorldMake w = Due.world(ROOM, ROOM, ROOM, DOOR, DOOR);
        due.is("exit(0, 0, 1)", w.exit(0, 0, 1), 0);
        due.is("exit(2, 1, NONE)", w.exit(2, 1, NONE), 1);
        due.is("door(3, 0, 0, 2): a's exit ahead of b's", w.door(3, 0, 0, 2), Due.against(0));
        due.is("door(3, 2, 1, 0): a's exit ahead of b's", w.door(3, 2, 1, 0), Due.against(1));
        due.is("door(3, 1, 0, 2): b's exit", w.door(3, 1, 0, 2), Due.against(1));
        due.is("sort(1, 0)", w.sort(1, 0), 0);
        due.is("door(3, 0, 6, 2)", w.door(3, 0, 6, 2), 2);
        due.is("door(3, 0, 6, 2) again", w.door(3, 0, 6, 2), Due.against(2));
        due.is("door(3, 2, 1, 1): the door ahead of the exit", w.door(3, 2, 1, 1), Due.against(2));
        due.is("door(4, 0, 6, 1): another door told it", w.door(4, 0, 6, 1), Due.against(2));
        due.is("exit(1, 6, 2): b's exit is told by a door", w.exit(1, 6, 2), 3);
        due.is("sort(2, 7): stays", w.sort(2, 7), 3);
        due.is("leads(2, 7): stays", w.leads(2, 7), 0);
    }

    private static void routes() {
        WorldMake w = Due.world(ROOM, ROOM, ROOM, ROOM, ROOM);
        w.exit(0, 0, 1);
        w.exit(1, 2, 2);
        w.exit(2, 4, 3);
        w.exit(1, 1, NONE);
        due.is("route(0, 0)", w.route(0, 0, false), 0);
        due.is("first(0, 0)", w.first(0, 0, false), NONE);
        due.is("route(0, 3)", w.route(0, 3, false), 3);
        due.is("first(0, 3)", w.first(0, 3, false), 0);
        due.is("route(3, 1): by assumed ones", w.route(3, 1, false), 2);
        due.is("first(3, 1)", w.first(3, 1, false), 5);
        due.is("route(1, 0): nothing was told", w.route(1, 0, true), NONE);
        due.is("first(1, 0)", w.first(1, 0, true), NONE);
        due.is("route(0, 4)", w.route(0, 4, true), NONE);
        due.is("first(4, 0)", w.first(4, 0, true), NONE);
        w.exit(4, 3, 4);
        due.is("route(4, 4): to itself", w.route(4, 4, true), 0);
        due.is("first(4, 4)", w.first(4, 4, true), NONE);
    }

    private static void leastDirection() {
        WorldMake w = Due.world(ROOM, ROOM, ROOM, ROOM, ROOM);
        w.exit(0, 7, 1);
        w.exit(0, 5, 2);
        w.exit(0, 2, 3);
        w.exit(0, 3, 0);
        w.exit(1, 1, 4);
        w.exit(2, 3, 4);
        due.is("route(0, 4)", w.route(0, 4, false), 2);
        due.is("first(0, 4): the least on a shortest route", w.first(0, 4, false), 5);
        w.exit(0, 6, 4);
        w.exit(0, 4, 4);
        due.is("route(0, 4): shorter", w.route(0, 4, false), 1);
        due.is("first(0, 4): shorter", w.first(0, 4, false), 4);
    }

    private static void shutDoors() {
        WorldMake w = Due.world(ROOM, ROOM, DOOR, DOOR);
        w.door(2, 0, 4, 1);
        due.is("route(0, 1): shut", w.route(0, 1, false), NONE);
        due.is("first(0, 1): shut", w.first(0, 1, false), NONE);
        due.is("route(0, 1, any)", w.route(0, 1, true), 1);
        due.is("first(1, 0, any)", w.first(1, 0, true), 5);
        w.open(2, true);
        due.is("route(0, 1): open", w.route(0, 1, false), 1);
        due.is("first(1, 0): open", w.first(1, 0, false), 5);
        w.open(2, false);
        w.door(3, 0, 6, 1);
        w.open(3, true);
        due.is("first(0, 1): by the open one", w.first(0, 1, false), 6);
        due.is("first(0, 1, any): by the least", w.first(0, 1, true), 4);
        due.is("leads through a shut door", w.leads(0, 4), 1);
    }

    private static void longRoute() {
        WorldMake w = new WorldMake();
        for (int k = 0; k < 64; k++) {
            w.thing(ROOM, 0);
        }
        for (int k = 0; k < 63; k++) {
            w.exit(k, 6, k + 1);
        }
        due.is("route(0, 63)", w.route(0, 63, false), 63);
        due.is("first(0, 63)", w.first(0, 63, false), 6);
        due.is("route(63, 0)", w.route(63, 0, false), 63);
        due.is("first(63, 0)", w.first(63, 0, false), 7);
    }

    private static void fullAtThreeHundred() {
        WorldMake w = Due.world(ROOM, ROOM, DOOR, DOOR, THING);
        w.exit(0, 0, 1);
        w.door(2, 0, 2, 1);
        Due.tellUntil(w, 300, 4, 0);
        due.is("exit(0, 4, 1)", w.exit(0, 4, 1), FULL);
        due.is("exit(0, 0, 0): full ahead of against", w.exit(0, 0, 0), FULL);
        due.is("exit(0, 0, 1): state ahead of full", w.exit(0, 0, 1), STATE);
        due.is("door(3, 0, 4, 1)", w.door(3, 0, 4, 1), FULL);
        due.is("door(2, 0, 2, 1): full ahead of against", w.door(2, 0, 2, 1), FULL);
        due.is("door(4, 0, 4, 1): state ahead of full", w.door(4, 0, 4, 1), STATE);
        due.is("sort(0, 4)", w.sort(0, 4), 0);
    }
}
