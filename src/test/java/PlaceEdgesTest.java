/** The edges of promises 19 to 23, and of what the terms say of places that are not sure. */
public final class PlaceEdgesTest {
    private static final Stories stories = new Stories("PlaceEdgesTest");

    public static void main(String[] args) {
        amongsThatAreRefused();
        amongsInOrder();
        sets();
        amongsThatGoAgainst();
        pairsThatAreRefused();
        pairsThatGoAgainst();
        mostsThatAreRefused();
        mostsThatGoAgainst();
        settlesOfHowMany();
        settlesOfHowManyWays();
        settlesThatAreFull();
        settlesWithoutAWay();
        leastWays();
        waysByPairs();
        setsAsked();
        stories.end();
    }

    private static void amongsThatAreRefused() {
        stories.tell("19: UNKNOWN: the THING, at both ends", """
            world ROOM THING; among(-1|2|64|NONE|MIN|MAX, {0}) = UNKNOWN; among(1, {0}) = 0""");
        stories.tell("19: UNKNOWN: a bit of no THING", """
            world ROOM THING; among(1, {2}) = UNKNOWN; among(1, {0 2}) = UNKNOWN; among(1, {63}) = UNKNOWN;
            among(1, {0 63}) = UNKNOWN; among(1, -1|LMIN|LMAX) = UNKNOWN; set(1) = 0; count(7) = 0""");
        stories.tell("19: the last THING's bit is the long's sign", """
            63 x thing(0, 0) = 0 ..; among(0, {63}) = UNKNOWN; thing(1, 0) = 63; among(0, {63}) = 0; set(0) = LMIN;
            among(0, -1) = STATE; sentence(0, 2) = 0; settle() = 1; place(0, 0) = 63""");
        stories.tell("19: OUTSIDE: no bit", "world ROOM THING; among(1, 0) = OUTSIDE; set(1) = 0; count(3) = 0");
        stories.tell("19: STATE: it is a ROOM, DOOR, BACKDROP", """
            world ROOM DOOR BACKDROP ROOM THING CARRIER PERSON; among(0|1|2, {3}) = STATE; among(4|5|6, {3}) = 0 ..;
            set(0|1|2) = 0""");
        stories.tell("19: STATE: a bit is it itself", """
            world CARRIER ROOM; among(0, {0}) = STATE; among(0, {0 1}) = STATE; among(0, {1}) = 0""");
        stories.tell("19: STATE: a bit is of no HOLDER", """
            world THING ROOM CARRIER PERSON THING DOOR BACKDROP; among(0, {4}) = STATE; among(0, {1 4}) = STATE;
            among(0, {5}) = STATE; among(0, {1 5}) = STATE; among(0, {6}) = STATE; among(0, {2 3 6}) = STATE;
            among(4, {0 1}) = STATE; among(0, {1 2 3}) = 0; set(0) = {1 2 3}""");
    }

    private static void amongsInOrder() {
        stories.tell("19: UNKNOWN ahead of OUTSIDE ahead of STATE", """
            world ROOM THING; among(2, 0) = UNKNOWN; among(0, {2}) = UNKNOWN; among(0, 0) = OUTSIDE;
            among(1, {1 2}) = UNKNOWN; among(0, {0}) = STATE""");
        stories.tell("19: STATE ahead of FULL ahead of AGAINST", """
            world ROOM ROOM THING THING; put(2, 0) = 0; 299 x bar(3, 0); among(2, {1}) = FULL; among(3, {0}) = FULL;
            among(3, {1}) = FULL; among(3, {2}) = STATE; among(0, {1}) = STATE; among(3, 0) = OUTSIDE;
            among(3, {4}) = UNKNOWN; set(2|3) = 0; count(7) = 0""");
        stories.tell("19: STATE ahead of AGAINST", """
            world ROOM ROOM CARRIER THING; put(2, 0) = 0; among(2, {1 2}) = STATE; among(2, {1 3}) = STATE;
            among(2, {1}) = AGAINST 0""");
        stories.tell("19: the last SENTENCE there may be", """
            world ROOM THING; 299 x bar(1, 0); thing(1, 0); among(1, {2}) = 299; among(1, {2}) = FULL; set(1) = 4;
            settle() = FULL""");
    }

    private static void sets() {
        stories.tell("Terms 3: by each among() more what both have", """
            world ROOM ROOM ROOM ROOM THING; among(4, {0 1 2}) = 0; set(4) = {0 1 2}; among(4, {1 2 3}) = 1;
            set(4) = {1 2}; among(4, {0 1 2 3}) = 2; set(4) = {1 2}; among(4, {2 3}) = 3; set(4) = {2};
            among(4, {2}) = 4; set(4) = {2}""");
        stories.tell("Terms 3: what is barred leaves its SET, ahead of the among() or behind it", """
            world ROOM ROOM ROOM THING; bar(3, 0) = 0; among(3, {0 1 2}) = 1; set(3) = {1 2}; bar(3, 2) = 2;
            set(3) = {1}; among(3, {0 1 2}) = 3; set(3) = {1}""");
        stories.tell("Terms 3: each THING has a SET of its own", """
            world ROOM ROOM THING THING; among(2, {0}) = 0; set(3) = 0; bar(3, 0) = 1; among(3, {0 1}) = 2;
            set(2) = {0}; set(3) = {1}""");
        stories.tell("Terms 3: UNSETTLED are THINGS that have a SET and were not put", """
            world ROOM THING THING THING; among(1, {0}) = 0; among(2, {0}) = 1; count(7) = 2; put(1, 0) = 2;
            count(7) = 1; among(1, {0}) = 3; count(7) = 1; set(1) = {0}; settle() = 1; count(7) = 0; set(2) = {0};
            put(3, 0) = 5; among(3, {0}) = 6; count(7) = 0""");
    }

    private static void amongsThatGoAgainst() {
        stories.tell("19: AGAINST the put() of it, if that is none of these", """
            world ROOM ROOM THING THING; put(3, 1) = 0; put(2, 0) = 1; among(2, {1}) = AGAINST 1;
            among(3, {0}) = AGAINST 0; among(2, {0}) = 2; among(3, {0 1}) = 3; set(3) = {0 1}; set(2) = {0}""");
        stories.tell("19: AGAINST the latest among() of it, if both SETS have nothing alike", """
            world ROOM ROOM ROOM THING THING; among(3, {0 1}) = 0; among(4, {2}) = 1; among(3, {1 2}) = 2;
            among(4, {2}) = 3; among(3, {0}) = AGAINST 2; among(3, {0 2}) = AGAINST 2; among(4, {0 1}) = AGAINST 3;
            set(3) = {1}; among(3, {0 1}) = 4; among(3, {2}) = AGAINST 4""");
        stories.tell("19: AGAINST the first bar() of it into one of these, if nothing is left", """
            world ROOM ROOM ROOM THING THING; bar(4, 1) = 0; bar(3, 2) = 1; bar(3, 1) = 2; bar(3, 0) = 3;
            bar(3, 1) = 4; among(3, {0}) = AGAINST 3; among(3, {1}) = AGAINST 2; among(3, {0 1}) = AGAINST 2;
            among(3, {0 1 2}) = AGAINST 1; set(3) = 0; among(4, {1}) = AGAINST 0; among(4, {0 1}) = 5;
            set(4) = {0}""");
        stories.tell("19: AGAINST the put() ahead of the among() ahead of the bar()", """
            world ROOM ROOM ROOM THING THING; bar(3, 1) = 0; bar(4, 1) = 1; among(3, {0}) = 2; put(3, 0) = 3;
            among(3, {1}) = AGAINST 3; among(4, {0 2}) = 4; among(4, {1}) = AGAINST 4; bar(4, 0) = 5;
            among(4, {0 1}) = AGAINST 4""");
        stories.tell("19: what went against leaves the SET, and who is UNSETTLED", """
            world ROOM ROOM THING; bar(2, 0) = 0; among(2, {0}) = AGAINST 0; count(7) = 0; settle() = 0;
            among(2, {1}) = 1; among(2, {0}) = AGAINST 1; count(7) = 1; settle() = 1; place(2, 0) = 1""");
    }

    private static void pairsThatAreRefused() {
        stories.tell("20: UNKNOWN, either, at both ends", """
            world THING THING; pair(-1|2|64|NONE|MIN|MAX, 0, true) = UNKNOWN;
            pair(0, -1|2|64|NONE|MIN|MAX, false) = UNKNOWN; pair(2, 2, true) = UNKNOWN; pair(0, 1, true) = 0""");
        stories.tell("20: STATE: both are one, or one is a ROOM, DOOR, BACKDROP", """
            world THING ROOM DOOR BACKDROP CARRIER PERSON; pair(0, 0|1|2|3, true|false) = STATE;
            pair(1|2|3, 0, true|false) = STATE; pair(4, 4, false) = STATE; pair(1, 2, true) = STATE;
            pair(0, 4|5, true) = 0 ..; pair(4, 5, true) = 2; count(9) = 3""");
        stories.tell("20: UNKNOWN ahead of STATE", """
            world ROOM; pair(0, 1, true) = UNKNOWN; pair(1, 0, true) = UNKNOWN; pair(0, 0, true) = STATE""");
        stories.tell("20: FULL: also 16 PAIRS, ahead of AGAINST, behind STATE", """
            world THING THING THING ROOM; 15 x pair(0, 1, true) = 0 ..; count(9) = 15; pair(1, 2, false) = 15;
            count(9) = 16; pair(0, 2, true) = FULL; pair(0, 1, true|false) = FULL; pair(0, 0|3, true) = STATE;
            pair(0, 4, true) = UNKNOWN; count(9) = 16; count(3) = 16; bar(0, 3) = 16""");
        stories.tell("20: FULL: 300 SENTENCES, ahead of AGAINST", """
            world THING THING ROOM THING; pair(0, 1, true) = 0; 298 x bar(0, 2); pair(1, 0, true) = 299;
            pair(0, 1, true|false) = FULL; pair(0, 3, true) = FULL; pair(0, 2, true) = STATE; count(9) = 2""");
        stories.tell("20: the sixteenth PAIR counts as the first does", """
            world THING THING THING ROOM ROOM; 15 x pair(0, 1, true) = 0 ..; pair(0, 2, false) = 15; put(2, 3) = 16;
            put(0, 3) = AGAINST 15; put(0, 4) = 17; put(1, 3) = AGAINST 0""");
    }

    private static void pairsThatGoAgainst() {
        stories.tell("20: AGAINST the first PAIR of both (either way round) that told the other", """
            world THING THING THING; pair(0, 2, false) = 0; pair(1, 0, true) = 1; pair(0, 1, true) = 2;
            pair(0, 1, false) = AGAINST 1; pair(1, 0, false) = AGAINST 1; pair(2, 0, true) = AGAINST 0;
            pair(1, 2, true) = 3; count(9) = 4""");
        stories.tell("20: AGAINST the later put() of the two, if both were put otherwise", """
            world ROOM ROOM THING THING THING; put(3, 0) = 0; put(2, 1) = 1; put(4, 0) = 2;
            pair(2, 3, true) = AGAINST 1; pair(3, 2, true) = AGAINST 1; pair(3, 4, false) = AGAINST 2;
            pair(4, 3, false) = AGAINST 2; pair(2, 4, true) = AGAINST 2; pair(2, 3, false) = 3;
            pair(3, 4, true) = 4; count(9) = 2""");
        stories.tell("20: AGAINST the PAIR ahead of the put()", """
            world ROOM ROOM THING THING; pair(2, 3, false) = 0; put(2, 0) = 1; put(3, 1) = 2;
            pair(2, 3, true) = AGAINST 0""");
        stories.tell("20: one that was not put stands against nothing", """
            world ROOM ROOM THING THING; put(2, 0) = 0; among(3, {1}) = 1; pair(2, 3, true) = 2; settle() = NOWAY;
            put(3, 1) = AGAINST 2""");
        stories.tell("20: settle()'s put() counts as another", """
            world ROOM ROOM THING THING; put(3, 1) = 0; among(2, {0}) = 1; settle() = 1;
            pair(3, 2, true) = AGAINST 2""");
    }

    private static void mostsThatAreRefused() {
        stories.tell("21: UNKNOWN, at both ends, ahead of OUTSIDE", """
            world ROOM; most(-1|1|64|NONE|MIN|MAX, 0) = UNKNOWN; most(1, 65) = UNKNOWN; most(0, 0) = 0""");
        stories.tell("21: OUTSIDE: n 0 .. 64, ahead of STATE", """
            world ROOM CARRIER THING; most(0, -1|65|MIN|MAX) = OUTSIDE; most(2, -1|65) = OUTSIDE; most(0, 64) = 0;
            most(0, 65|-1) = OUTSIDE; most(1, 0) = 1""");
        stories.tell("21: STATE: no HOLDER, or it has one", """
            world THING DOOR BACKDROP ROOM CARRIER PERSON; most(0|1|2, 0) = STATE; most(3|4|5, 0) = 0 ..;
            most(3|4|5, 0|64) = STATE; count(3) = 3""");
        stories.tell("21: STATE ahead of AGAINST", """
            world ROOM THING THING; most(0, 2) = 0; put(1, 0) = 1; put(2, 0) = 2; most(0, 0|1) = STATE""");
        stories.tell("21: STATE ahead of FULL ahead of AGAINST", """
            world ROOM CARRIER THING; put(2, 0) = 0; most(1, 3) = 1; 298 x bar(2, 1); most(0, 0) = FULL;
            most(0, 5) = FULL; most(1, 3) = STATE; most(2, 3) = STATE; most(0, 65) = OUTSIDE;
            most(3, 0) = UNKNOWN""");
        stories.tell("21: the last SENTENCE there may be", """
            world ROOM CARRIER; 299 x bar(1, 0); most(0, 0) = 299; most(1, 0) = FULL; most(0, 0) = STATE""");
        stories.tell("21: a MOST that went against, was refused, is none", """
            world ROOM THING THING; put(1, 0) = 0; most(0, 0) = AGAINST 0; most(0, 65) = OUTSIDE; put(2, 0) = 1;
            most(0, 2) = 2""");
    }

    private static void mostsThatGoAgainst() {
        stories.tell("21: AGAINST the put() behind the first n", """
            world ROOM ROOM THING THING THING BACKDROP; put(5, 0) = 0; put(4, 0) = 1; put(3, 1) = 2; put(2, 0) = 3;
            most(0, 0) = AGAINST 1; most(0, 1) = AGAINST 3; most(1, 0) = AGAINST 2; most(0, 2) = 4;
            most(1, 1) = 5""");
        stories.tell("21: settle()'s put() counts as another", """
            world ROOM THING THING THING; among(3, {0}) = 0; among(2, {0}) = 1; settle() = 2; put(1, 0) = 4;
            most(0, 0) = AGAINST 2; most(0, 1) = AGAINST 3; most(0, 2) = AGAINST 4; most(0, 3) = 5""");
        stories.tell("21: BACKDROPS do not count", """
            world ROOM BACKDROP BACKDROP THING; put(1, 0) = 0; put(2, 0) = 1; most(0, 0) = 2;
            put(3, 0) = AGAINST 2""");
        stories.tell("21: of n = 62 the sixty-third", "thing(1, 0) = 0; 63 x thing(0, 0) = 1 ..;"
            + Stories.each(1, 63, k -> "put(" + k + ", 0) = " + (k - 1))
            + "most(0, 62) = AGAINST 62; most(0, 0) = AGAINST 0; most(0, 63) = 63");
    }

    private static void settlesOfHowMany() {
        stories.tell("22: none: 0", """
            settle() = 0; world ROOM THING; settle() = 0; put(1, 0) = 0; settle() = 0; count(3) = 1""");
        stories.tell("22: seven", """
            world ROOM; 7 x thing(0, 0) = 1 ..; among(7|6|5|4|3|2|1, {0}) = 0 ..; settle() = 7; count(3) = 14;
            sentence(7, 0) = 0; sentence(7, 1) = 1; sentence(7, 2) = 0; sentence(13, 1) = 7; count(7) = 0;
            settle() = 0""");
        stories.tell("22: STATE: more than 7 are UNSETTLED", """
            world ROOM; 8 x thing(0, 0) = 1 ..; among(8|7|6|5|4|3|2|1, {0}) = 0 ..; settle() = STATE; count(7) = 8;
            count(3) = 8; place(1, 0) = NONE; put(5, 0) = 8; settle() = 7; place(8, 0) = 0; count(3) = 16""");
        stories.tell("22: STATE: sixty-three of them", "thing(1, 0) = 0; 63 x thing(0, 0) = 1 ..;"
            + Stories.each(1, 63, k -> "among(" + k + ", {0}) = " + (k - 1)) + "settle() = STATE; count(7) = 63");
    }

    private static void settlesOfHowManyWays() {
        stories.tell("22: 3000 are not above 3000", """
            50 x thing(1, 0) = 0 ..; thing(0, 0) = 50; thing(0, 0) = 51; thing(0, 0) = 52;
            among(50, 1125899906842623) = 0; among(51, 1073741823) = 1; among(52, {0 49}) = 2; settle() = 3;
            place(50|51|52, 0) = 0""");
        stories.tell("22: STATE: 3 * 7 * 11 * 13 are 3003, the least that sets come to above 3000", """
            13 x thing(1, 0) = 0 ..; 4 x thing(0, 0) = 13 ..; among(13, {4 5 12}) = 0; among(14, 127) = 1;
            among(15, 2047) = 2; among(16, 8191) = 3; settle() = STATE; count(3) = 4; place(13, 0) = NONE;
            bar(16, 0) = 4; settle() = 4; place(13, 0) = 4; place(14|15, 0) = 0; place(16, 0) = 1""");
        stories.tell("22: STATE: 4096 are; 2048 are not", """
            world ROOM ROOM ROOM ROOM; 6 x thing(0, 0) = 4 ..; among(4|5|6|7|8|9, {0 1 2 3}) = 0 ..;
            settle() = STATE; count(7) = 6; place(4, 0) = NONE; bar(9, 0) = 6; bar(9, 1) = 7; settle() = 6;
            place(9, 0) = 2""");
        stories.tell("22: STATE: seven of 57, far more than an int has", """
            57 x thing(1, 0) = 0 ..; 7 x thing(0, 0) = 57 ..; among(57|58|59|60|61|62|63, 144115188075855871) = 0 ..;
            settle() = STATE; count(7) = 7""");
        stories.tell("22: STATE: six of 32 and one of 4 are 2 to the 32nd, which as an int is 0", """
            32 x thing(1, 0) = 0 ..; 7 x thing(0, 0) = 32 ..; among(32|33|34|35|36|37, 4294967295) = 0 ..;
            among(38, {0 1 2 3}) = 6; settle() = STATE; count(3) = 7""");
    }

    private static void settlesThatAreFull() {
        stories.tell("22: FULL: one SENTENCE too few for two", """
            world ROOM THING THING CARRIER; among(1|2, {0}) = 0 ..; 297 x bar(3, 0); settle() = FULL;
            count(3) = 299; count(7) = 2; place(1, 0) = NONE; put(1, 0) = 299; settle() = FULL""");
        stories.tell("22: just enough", """
            world ROOM THING THING CARRIER; among(1|2, {0}) = 0 ..; 296 x bar(3, 0); settle() = 2; count(3) = 300;
            count(7) = 0; settle() = 0; place(2, 0) = 0""");
        stories.tell("22: STATE ahead of FULL ahead of NOWAY", """
            world ROOM CARRIER; 8 x thing(0, 0) = 2 ..; most(0, 0) = 0; among(2|3|4|5|6|7|8|9, {0}) = 1 ..;
            291 x bar(1, 0); settle() = STATE; count(3) = 300""");
        stories.tell("22: FULL ahead of NOWAY", """
            world ROOM CARRIER THING; most(0, 0) = 0; among(2, {0}) = 1; settle() = NOWAY; 297 x bar(1, 0);
            settle() = NOWAY; bar(1, 0) = 299; settle() = FULL""");
    }

    private static void settlesWithoutAWay() {
        stories.tell("22: NOWAY: a HOLDER has its MOST", """
            world ROOM THING THING; most(0, 1) = 0; put(1, 0) = 1; among(2, {0}) = 2; settle() = NOWAY;
            count(3) = 3; count(7) = 1; place(2, 0) = NONE; says(0, 2) = 1""");
        stories.tell("22: NOWAY: more than its MOST together", """
            world ROOM ROOM THING THING THING; most(0, 1) = 0; most(1, 1) = 1; among(2|3|4, {0 1}) = 2 ..;
            settle() = NOWAY; place(2|3|4, 0) = NONE; says(0|1, 2) = 0; count(3) = 5""");
        stories.tell("22: NOWAY: within one another", """
            world CARRIER CARRIER CARRIER; among(0, {1}) = 0; among(1, {2}) = 1; among(2, {0}) = 2;
            settle() = NOWAY; put(0, 1) = 3; settle() = NOWAY; says(0|2, 0) = 1; says(1, 0) = 2""");
        stories.tell("22: NOWAY: in what lies in it, as put", """
            world CARRIER CARRIER; put(0, 1) = 0; among(1, {0}) = 1; settle() = NOWAY; place(1, 0) = NONE""");
        stories.tell("22: NOWAY: a PAIR with one that was put; of two UNSETTLED ones", """
            world ROOM ROOM THING THING THING; put(2, 0) = 0; pair(2, 3, false) = 1; among(3, {0}) = 2;
            settle() = NOWAY; clear() = 5; world ROOM ROOM THING THING; among(2, {0}) = 0; among(3, {1}) = 1;
            pair(2, 3, true) = 2; settle() = NOWAY; count(7) = 2""");
        stories.tell("22: NOWAY changes nothing: what comes behind it may settle", """
            world ROOM ROOM THING THING; among(2, {0}) = 0; among(3, {0 1}) = 1; most(0, 0) = 2; settle() = NOWAY;
            put(2, 1) = AGAINST 0; bar(3, 0) = 3; put(3, 1) = 4; settle() = NOWAY; count(7) = 1; count(3) = 5""");
    }

    private static void leastWays() {
        stories.tell("Terms 3: the lesser HOLDER for the least THING", """
            world THING THING ROOM ROOM; among(1, {2 3}) = 0; among(0, {2 3}) = 1; most(2, 1) = 2; settle() = 2;
            place(0, 0) = 2; place(1, 0) = 3; sentence(3, 1) = 0; sentence(4, 1) = 1; sentence(4, 2) = 3""");
        stories.tell("Terms 3: the least THING gives way only where it must", """
            world ROOM ROOM ROOM THING THING THING; most(0|1|2, 1) = 0 ..; among(3, {0 1 2}) = 3;
            among(4, {0 1}) = 4; among(5, {0}) = 5; settle() = 3; place(3, 0) = 2; place(4, 0) = 1; place(5, 0) = 0;
            sentence(6, 1) = 3; sentence(6, 2) = 2; sentence(8, 2) = 0""");
        stories.tell("Terms 3: no THING within itself, by the least WAY", """
            world CARRIER CARRIER CARRIER ROOM; among(0, {1 3}) = 0; among(1, {2 3}) = 1; among(2, {0 3}) = 2;
            settle() = 3; place(0, 0) = 1; place(1, 0) = 2; place(2, 0) = 3; says(3, 2) = 3""");
        stories.tell("Terms 3: UNSETTLED ones in what was put, and what was put in UNSETTLED ones", """
            world CARRIER CARRIER ROOM THING; put(3, 0) = 0; among(0, {1 2}) = 1; among(1, {0 2}) = 2; settle() = 2;
            place(0, 0) = 1; place(1, 0) = 2; says(2, 2) = 3""");
        stories.tell("Terms 3: a MOST counts what was put, BACKDROPS not", """
            world ROOM ROOM THING THING BACKDROP; put(2, 0) = 0; put(4, 0) = 1; most(0, 2) = 2; among(3, {0 1}) = 3;
            settle() = 1; place(3, 0) = 0""");
        stories.tell("22: a SENTENCE for each, as put(): later calls go against it", """
            world ROOM ROOM THING; among(2, {0 1}) = 0; settle() = 1; put(2, 1) = AGAINST 1; put(2, 0) = STATE;
            bar(2, 0) = AGAINST 1; among(2, {1}) = AGAINST 1; bar(2, 1) = 2; set(2) = {0}""");
    }

    private static void waysByPairs() {
        stories.tell("Terms 3: a PAIR of two UNSETTLED ones, alike", """
            world ROOM ROOM ROOM THING THING; among(3, {0 1 2}) = 0; among(4, {1 2}) = 1; pair(4, 3, true) = 2;
            settle() = 2; place(3|4, 0) = 1""");
        stories.tell("Terms 3: a PAIR of two UNSETTLED ones, not alike", """
            world ROOM ROOM ROOM THING THING; among(3, {0 1}) = 0; among(4, {0 1}) = 1; pair(4, 3, false) = 2;
            settle() = 2; place(3, 0) = 0; place(4, 0) = 1""");
        stories.tell("Terms 3: a PAIR of which one lies nowhere then does not count", """
            world ROOM ROOM THING THING; among(2, {0}) = 0; pair(2, 3, true) = 1; settle() = 1; place(2, 0) = 0;
            put(3, 1) = AGAINST 1; put(3, 0) = 3""");
        stories.tell("Terms 3: ALIKE is the same HOLDER, not within it", """
            world ROOM CARRIER THING THING; put(1, 0) = 0; put(2, 1) = 1; pair(2, 3, true) = 2; among(3, {0 1}) = 3;
            settle() = 1; place(3, 0) = 1""");
    }

    private static void setsAsked() {
        stories.tell("23: the SET; 0 without; 0: UNKNOWN", """
            world ROOM THING; set(0|1|2|-1|64|NONE|MIN|MAX) = 0; bar(1, 0) = 0; set(1) = 0; thing(1, 0);
            among(1, {2}) = 1; set(1) = 4; set(0|2|3) = 0; fault() = 0""");
        stories.tell("23: of as many as there may be", """
            63 x thing(4, 0) = 0 ..; thing(0, 0) = 63; among(63, LMAX) = 0; set(63) = LMAX; bar(63, 62) = 1;
            set(63) = 4611686018427387903; bar(63, 0) = 2; set(63) = 4611686018427387902""");
    }
}
