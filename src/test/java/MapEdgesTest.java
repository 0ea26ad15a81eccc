/** The edges of promises 30 to 35, and of what the terms say of the map. */
public final class MapEdgesTest {
    private static final Stories stories = new Stories("MapEdgesTest");

    public static void main(String[] args) {
        exitsThatAreRefused();
        exitsThatGoAgainst();
        opposites();
        assumedOnes();
        doorsThatAreRefused();
        doorsThatGoAgainst();
        leadsAndSorts();
        routes();
        shutDoors();
        firstDirections();
        stories.end();
    }

    private static void exitsThatAreRefused() {
        stories.tell("30: UNKNOWN: either is no ROOM", """
            world ROOM THING DOOR BACKDROP CARRIER PERSON; exit(-1|1|2|3|4|5|6|64|NONE|MIN|MAX, 0, 0) = UNKNOWN;
            exit(0, 0, -1|1|2|3|4|5|6|64|-8|-10|MIN|MAX) = UNKNOWN; exit(1, 0, NONE) = UNKNOWN;
            exit(0, 0, NONE) = 0""");
        stories.tell("30: OUTSIDE: d, at both ends", """
            world ROOM ROOM; exit(0, -1|8|MIN|MAX, 1|NONE) = OUTSIDE; exit(0, 0|7, 1) = 0 ..; sort(0, 7) = 2;
            sort(1, 1|6) = 1""");
        stories.tell("30: UNKNOWN ahead of OUTSIDE ahead of STATE", """
            world ROOM THING; exit(1, 8, 0) = UNKNOWN; exit(0, 8, 1) = UNKNOWN; exit(0, -1, 2) = UNKNOWN;
            exit(0, 0, 0) = 0; exit(0, 8, 0) = OUTSIDE; exit(0, 0, 0) = STATE""");
        stories.tell("30: STATE: it was told so already, to a ROOM, to nothing", """
            world ROOM ROOM; exit(0, 0, 1) = 0; exit(0, 0, 1) = STATE; exit(1, 0, NONE) = 1;
            exit(1, 0, NONE) = STATE; exit(0, 2, 0) = 2; exit(0, 2, 0) = STATE; count(3) = 3""");
        stories.tell("30: what was ASSUMED so was not told", """
            world ROOM ROOM; exit(0, 0, 1) = 0; sort(1, 1) = 1; exit(1, 1, 0) = 1; sort(1, 1) = 2;
            exit(1, 1, 0) = STATE""");
        stories.tell("30: what a DOOR told so is AGAINST, not STATE", """
            world ROOM ROOM DOOR; door(2, 0, 0, 1) = 0; exit(0, 0, 1) = AGAINST 0; exit(1, 1, 0) = AGAINST 0;
            exit(0, 0, 0) = AGAINST 0; exit(0, 0, NONE) = AGAINST 0; sort(0, 0) = 3""");
        stories.tell("30: STATE ahead of FULL ahead of AGAINST", """
            world ROOM ROOM THING; exit(0, 0, 1) = 0; 299 x bar(2, 0); exit(0, 0, 1) = STATE;
            exit(0, 0, 0|NONE) = FULL; exit(1, 1, 0) = FULL; exit(0, 2, 1) = FULL; exit(0, 8, 1) = OUTSIDE;
            exit(2, 0, 0) = UNKNOWN; sort(1, 1) = 1; sort(0, 2) = 0; sort(1, 3) = 0""");
        stories.tell("30: the last SENTENCE there may be", """
            world ROOM ROOM THING; 299 x bar(2, 0); exit(0, 6, 1) = 299; exit(0, 4, 1) = FULL; leads(0, 6) = 1;
            leads(1, 7) = 0; sort(1, 7) = 1""");
    }

    private static void exitsThatGoAgainst() {
        stories.tell("30: AGAINST the exit() that told it otherwise", """
            world ROOM ROOM ROOM; exit(0, 1, 2) = 0; exit(0, 0, 1) = 1; exit(1, 0, NONE) = 2;
            exit(0, 0, 2|0|NONE) = AGAINST 1; exit(0, 1, 1|0|NONE) = AGAINST 0; exit(1, 0, 0|1|2) = AGAINST 2;
            leads(0, 0) = 1; leads(1, 0) = NONE; sort(2, 1) = 0; sort(2, 0) = 1""");
        stories.tell("30: what went against assumes nothing", """
            world ROOM ROOM ROOM; exit(0, 0, NONE) = 0; exit(0, 0, 1) = AGAINST 0; sort(1, 1) = 0;
            leads(1, 1) = NONE; route(1, 0, true) = NONE""");
    }

    private static void opposites() {
        for (int d = 0; d < 8; d++) {
            int back = d % 2 == 1 ? d - 1 : d + 1;
            StringBuilder others = new StringBuilder();
            for (int other = 0; other < 8; other++) {
                others.append(other == back ? "" : "sort(1, " + other + ") = 0; leads(1, " + other + ") = NONE;");
            }
            stories.tell("Terms 5: the opposite of " + d, toldAndBack("exit(0, <d>, 1)", 2, 1, d, back) + others);
            stories.tell("31: b's EXIT is at the opposite of " + d,
                toldAndBack("door(2, 0, <d>, 1)", 3, 3, d, back) + others);
        }
    }

    /** A call that tells an exit from room 0 to room 1, and the sorts that it and the one back have then. */
    private static String toldAndBack(String call, int there, int back, int d, int opposite) {
        return ("world ROOM ROOM DOOR; " + call + " = 0; sort(0, <d>) = " + there + "; leads(0, <d>) = 1;"
            + "sort(1, <o>) = " + back + "; leads(1, <o>) = 0; sort(0, <o>) = 0;")
            .replace("<d>", "" + d).replace("<o>", "" + opposite);
    }

    private static void assumedOnes() {
        stories.tell("Terms 5: not where one is ASSUMED", """
            world ROOM ROOM ROOM; exit(0, 0, 1) = 0; exit(2, 0, 1) = 1; leads(1, 1) = 0; sort(1, 1) = 1;
            first(1, 2, true) = NONE""");
        stories.tell("Terms 5: not where one is TOLD to a ROOM, to nothing, by a DOOR", """
            world ROOM ROOM ROOM DOOR; exit(1, 1, 2) = 0; exit(0, 0, 1) = 1; leads(1, 1) = 2; exit(1, 3, NONE) = 2;
            exit(0, 2, 1) = 3; sort(1, 3) = 4; leads(1, 3) = NONE; door(3, 1, 5, 2) = 4; exit(0, 4, 1) = 5;
            sort(1, 5) = 3; leads(1, 5) = 2""");
        stories.tell("Terms 5: what is TOLD comes in place of what was ASSUMED: a ROOM, nothing, a DOOR", """
            world ROOM ROOM ROOM DOOR; exit(0, 0|2|4, 1) = 0 ..; exit(1, 1, 2) = 3; exit(1, 3, NONE) = 4;
            door(3, 2, 4, 1) = 5; sort(1, 1) = 2; leads(1, 1) = 2; sort(1, 3) = 4; leads(1, 3) = NONE;
            sort(1, 5) = 3; leads(1, 5) = 2; sort(0, 0|2|4) = 2; leads(0, 0|2|4) = 1""");
        stories.tell("Terms 5: to nothing, by a DOOR nothing is ASSUMED", """
            world ROOM ROOM DOOR; exit(0, 0, NONE) = 0; sort(0, 1) = 0; sort(1, 1) = 0; door(2, 0, 2, 1) = 1;
            sort(0, 3) = 0; sort(1, 2) = 0""");
        stories.tell("Terms 5: from a ROOM to itself", """
            world ROOM; exit(0, 3, 0) = 0; sort(0, 3) = 2; sort(0, 2) = 1; leads(0, 2) = 0; exit(0, 2, 0) = 1;
            sort(0, 2) = 2; route(0, 0, true) = 0; first(0, 0, true) = NONE""");
        stories.tell("Terms 5: all eight of a ROOM", """
            world ROOM ROOM; exit(0, 0|1|2|3|4|5|6|7, 1) = 0 ..; sort(1, 0|1|2|3|4|5|6|7) = 1;
            leads(1, 0|1|2|3|4|5|6|7) = 0; exit(1, 0|1|2|3|4|5|6|7, NONE) = 8 ..; sort(1, 0|1|2|3|4|5|6|7) = 4;
            leads(1, 0|1|2|3|4|5|6|7) = NONE; route(1, 0, true) = NONE; route(0, 1, true) = 1""");
        stories.tell("Terms 5: the last ROOM", """
            64 x thing(1, 0) = 0 ..; exit(63, 7, 0) = 0; leads(63, 7) = 0; leads(0, 6) = 63; sort(0, 6) = 1;
            exit(0, 7, 63) = 1; leads(63, 6) = 0; sort(62, 7) = 0; exit(0, 0, 64) = UNKNOWN""");
    }

    private static void doorsThatAreRefused() {
        stories.tell("31: UNKNOWN: a THING, the ROOMS, at both ends", """
            world ROOM ROOM DOOR THING; door(-1|4|64|NONE|MIN|MAX, 0, 0, 1) = UNKNOWN;
            door(2, -1|2|3|4|64|NONE|MIN|MAX, 0, 1) = UNKNOWN; door(2, 0, 0, -1|2|3|4|64|NONE|MIN|MAX) = UNKNOWN;
            door(2, 0, 0, 1) = 0""");
        stories.tell("31: UNKNOWN ahead of OUTSIDE ahead of STATE", """
            world ROOM ROOM DOOR THING; door(4, 0, 8, 0) = UNKNOWN; door(2, 3, -1, 1) = UNKNOWN;
            door(3, 0, 8, 2) = UNKNOWN; door(3, 0, 8|-1, 0) = OUTSIDE; door(3, 0, 0, 1) = STATE""");
        stories.tell("31: OUTSIDE: d, at both ends", """
            world ROOM ROOM DOOR DOOR; door(2, 0, -1|8|MIN|MAX, 1) = OUTSIDE; door(2, 0, 0, 1) = 0;
            door(3, 0, 7, 1) = 1; sort(1, 6) = 3""");
        stories.tell("31: STATE: it is no DOOR, or a is b", """
            world ROOM ROOM DOOR THING BACKDROP CARRIER PERSON; door(0|1|3|4|5|6, 0, 0, 1) = STATE;
            door(2, 0, 0, 0) = STATE; door(3, 0, 0, 0) = STATE; door(2, 1, 0, 0) = 0; count(3) = 1""");
        stories.tell("31: STATE ahead of AGAINST", """
            world ROOM ROOM DOOR THING; door(2, 0, 0, 1) = 0; door(2, 0, 0, 0) = STATE;
            door(3, 0, 0, 1) = STATE""");
        stories.tell("31: STATE ahead of FULL ahead of AGAINST", """
            world ROOM ROOM DOOR DOOR THING; door(2, 0, 0, 1) = 0; 299 x bar(4, 0); door(2, 0, 2, 1) = FULL;
            door(3, 0, 0, 1) = FULL; door(3, 0, 2, 1) = FULL; door(3, 0, 2, 0) = STATE; door(4, 0, 2, 1) = STATE;
            door(3, 0, 8, 1) = OUTSIDE; door(5, 0, 2, 1) = UNKNOWN; sort(0, 2) = 0""");
        stories.tell("31: the last SENTENCE there may be", """
            world ROOM ROOM DOOR DOOR THING; 299 x bar(4, 0); door(2, 0, 0, 1) = 299; door(3, 0, 2, 1) = FULL;
            sort(0, 0) = 3; sort(1, 1) = 3; sort(0, 2) = 0""");
    }

    private static void doorsThatGoAgainst() {
        stories.tell("31: AGAINST the door() of it, even the same", """
            world ROOM ROOM ROOM DOOR DOOR; door(4, 0, 4, 1) = 0; door(3, 0, 0, 1) = 1;
            door(3, 0, 0, 1) = AGAINST 1; door(3, 1, 1, 0) = AGAINST 1; door(3, 2, 6, 0) = AGAINST 1;
            door(4, 2, 6, 0) = AGAINST 0; sort(2, 6) = 0""");
        stories.tell("31: AGAINST what told the EXIT of a there, then of b", """
            world ROOM ROOM ROOM DOOR DOOR; exit(1, 1, NONE) = 0; exit(0, 0, 2) = 1; door(3, 0, 0, 1) = AGAINST 1;
            door(3, 2, 0, 1) = AGAINST 0; door(3, 1, 1, 0) = AGAINST 0; door(3, 0, 2, 1) = 2;
            door(4, 0, 2, 2) = AGAINST 2; door(4, 2, 2, 1) = AGAINST 2; sort(2, 2) = 0; sort(2, 0) = 0""");
        stories.tell("31: AGAINST the door() of it ahead of the EXITS", """
            world ROOM ROOM ROOM DOOR; door(3, 0, 0, 1) = 0; exit(2, 4, NONE) = 1;
            door(3, 2, 4, 0) = AGAINST 0""");
        stories.tell("31: what is ASSUMED stands against nothing, at a or at b", """
            world ROOM ROOM ROOM DOOR DOOR; exit(0, 0, 1) = 0; exit(0, 2, 1) = 1; door(3, 1, 1, 2) = 2;
            door(4, 2, 2, 1) = 3; leads(1, 1) = 2; leads(1, 3) = 2; leads(2, 0) = 1; leads(2, 2) = 1;
            sort(0, 0|2) = 2""");
    }

    private static void leadsAndSorts() {
        for (String call : new String[] {"leads", "sort"}) {
            stories.tell("32, 33: UNKNOWN ahead of OUTSIDE: " + call, """
                world ROOM THING DOOR CARRIER; X(-1|1|2|3|4|64|NONE|MIN|MAX, 0) = UNKNOWN; X(1|4, -1|8) = UNKNOWN;
                X(0, -1|8|MIN|MAX) = OUTSIDE; fault() = 0""".replace("X(", call + "("));
        }
        stories.tell("32: NONE: there is none, to nothing", """
            world ROOM ROOM; leads(0, 0|7) = NONE; exit(0, 0, NONE) = 0; leads(0, 0) = NONE; exit(0, 7, 1) = 1;
            leads(0, 7) = 1; leads(1, 6) = 0""");
        stories.tell("33: 0 none, 1 ASSUMED, 2 TOLD to a ROOM, 3 TOLD by a DOOR, 4 TOLD to nothing", """
            world ROOM ROOM DOOR; exit(0, 0, 1) = 0; door(2, 0, 2, 1) = 1; exit(0, 4, NONE) = 2; sort(0, 0) = 2;
            sort(1, 1) = 1; sort(0, 2) = 3; sort(1, 3) = 3; sort(0, 4) = 4; sort(0|1, 6) = 0; sort(1, 5) = 0""");
    }

    private static void routes() {
        for (String call : new String[] {"route", "first"}) {
            stories.tell("34, 35: UNKNOWN, either, at both ends: " + call, """
                world ROOM THING DOOR CARRIER; X(-1|1|2|3|4|64|NONE|MIN|MAX, 0, true) = UNKNOWN;
                X(0, -1|1|2|3|4|64|NONE|MIN|MAX, false) = UNKNOWN;
                X(1, 1, true) = UNKNOWN""".replace("X(", call + "("));
        }
        stories.tell("34: 0 if a is b; NONE", """
            world ROOM ROOM; route(0, 0, true|false) = 0; route(0, 1, true|false) = NONE; first(0, 1, true) = NONE;
            exit(0, 0, NONE) = 0; route(0, 1, true) = NONE; exit(0, 2, 1) = 1; route(0, 1, true|false) = 1;
            route(1, 0, true|false) = 1; exit(1, 3, NONE) = 2; route(1, 0, true|false) = NONE""");
        stories.tell("34: the shortest, by what is TOLD and ASSUMED", """
            world ROOM ROOM ROOM ROOM; exit(0, 0, 1) = 0; exit(1, 0, 2) = 1; exit(2, 0, 3) = 2;
            route(0, 3, false) = 3; route(3, 0, false) = 3; first(3, 0, false) = 1; exit(0, 4, 2) = 3;
            route(0, 3, false) = 2; route(3, 0, false) = 2; first(2, 0, false) = 5; first(0, 3, false) = 4""");
        stories.tell("34: 63 EXITS through all of 64", "64 x thing(1, 0) = 0 ..;"
            + Stories.each(1, 63, k -> "exit(" + (k - 1) + ", 6, " + k + ") = " + (k - 1))
            + "route(0, 63, false) = 63; route(63, 0, true) = 63; first(63, 0, false) = 7; first(0, 63, true) = 6;"
            + "exit(63, 6, 0) = 63; route(63, 0, false) = 1; first(63, 0, false) = 6; route(0, 63, false) = 1;"
            + "first(0, 63, false) = 7; exit(0, 7, NONE) = 64; route(0, 63, false) = 63");
        stories.tell("34: there is only what leads on from ROOM to ROOM", """
            world ROOM ROOM ROOM; exit(0, 0, 1) = 0; exit(1, 1, NONE) = 1; exit(1, 2, 2) = 2; exit(2, 3, 2) = 3;
            route(0, 2, true) = 2; route(2, 0, true) = NONE; route(2, 1, true) = NONE;
            route(1, 0, true) = NONE""");
    }

    private static void shutDoors() {
        stories.tell("Terms 5: a DOOR that is not open bars it, unless ANY is asked", """
            world ROOM ROOM DOOR; door(2, 0, 0, 1) = 0; route(0, 1, false) = NONE; route(1, 0, false) = NONE;
            first(0, 1, false) = NONE; route(0, 1, true) = 1; first(0, 1, true) = 0; first(1, 0, true) = 1;
            open(2, true) = 0; route(0, 1, false) = 1; route(1, 0, false) = 1; first(1, 0, false) = 1;
            open(2, false) = 1; route(0, 1, false) = NONE; route(0, 0, false) = 0""");
        stories.tell("Terms 5: round a shut DOOR", """
            world ROOM ROOM ROOM DOOR DOOR; door(3, 0, 0, 1) = 0; exit(0, 2, 2) = 1; exit(2, 4, 1) = 2;
            route(0, 1, false) = 2; first(0, 1, false) = 2; route(0, 1, true) = 1; first(0, 1, true) = 0;
            open(4, true) = 0; route(0, 1, false) = 2; open(3, true) = 0; route(0, 1, false) = 1""");
        stories.tell("Terms 5: an open CARRIER opens no DOOR", """
            world ROOM ROOM CARRIER DOOR; door(3, 0, 0, 1) = 0; open(2, true) = 0; route(0, 1, false) = NONE""");
    }

    private static void firstDirections() {
        stories.tell("35: the least DIRECTION of a shortest ROUTE", """
            world ROOM ROOM ROOM; exit(0, 7, 1) = 0; exit(0, 3, 2) = 1; exit(0, 5, 1) = 2; exit(0, 1, 0) = 3;
            first(0, 1, false) = 5; exit(2, 6, 1) = 4; first(0, 1, false) = 5; first(0, 2, false) = 3;
            exit(0, 0, NONE) = 5; first(0, 1, false) = 5""");
        stories.tell("35: of several ROOMS that are as near the one of the least DIRECTION, not the least ROOM", """
            world ROOM ROOM ROOM ROOM; exit(0, 6, 1) = 0; exit(0, 4, 2) = 1; exit(1, 0, 3) = 2; exit(2, 2, 3) = 3;
            route(0, 3, false) = 2; first(0, 3, false) = 4; first(3, 0, false) = 1""");
        stories.tell("35: NONE: there is none, or a is b", """
            world ROOM ROOM; first(0, 0|1, true) = NONE; exit(0, 0, 0) = 0; first(0, 0|1, true) = NONE""");
    }
}
