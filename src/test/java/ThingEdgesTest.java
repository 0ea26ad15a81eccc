/** The edges of promises 6 to 18, and of what the terms say of things, bulks, worths, marks, lids and strides. */
public final class ThingEdgesTest {
    private static final Stories stories = new Stories("ThingEdgesTest");

    public static void main(String[] args) {
        things();
        putsThatAreRefused();
        putsWithinThemselves();
        putsOfBackdrops();
        putsThatGoAgainst();
        putsInOrder();
        bars();
        givesThatAreRefused();
        givesThatGoAgainst();
        values();
        givenOnes();
        peeks();
        places();
        sayings();
        bulks();
        worthsLidsStrides();
        follows();
        marks();
        remarks();
        opens();
        stories.end();
    }

    private static void things() {
        stories.tell("6: UNKNOWN, at both ends", """
            thing(-1|6|MIN|MAX, 0) = UNKNOWN; thing(0|5, 0) = 0 ..; kind(0); thing(6, 0) = 2; thing(7, 0) = UNKNOWN;
            count(2) = 3""");
        stories.tell("6: OUTSIDE: the SIZE, 0 .. 1000", """
            thing(0, -1|1001|MIN|MAX) = OUTSIDE; thing(0, 0|1000|1|999) = 0 ..; says(0, 0) = 0; says(1, 0) = 1000;
            count(2) = 4""");
        stories.tell("6: UNKNOWN ahead of OUTSIDE", "thing(6, -1) = UNKNOWN; thing(-1, 1001) = UNKNOWN");
        stories.tell("6: THINGS 0 .. 63; FULL behind; UNKNOWN, OUTSIDE ahead of FULL", """
            thing(1, 0) = 0; 62 x thing(0, 5) = 1 ..; thing(4, 7) = 63; thing(0, 0) = FULL; thing(5, 1000) = FULL;
            thing(6|-1, 0) = UNKNOWN; thing(0, -1|1001) = OUTSIDE; count(2) = 64; says(63, 0) = 7;
            says(64, 0) = UNKNOWN; put(62, 63) = 0; put(63, 0) = 1; place(63, 0) = 0; put(64, 0) = UNKNOWN;
            put(1, 64) = UNKNOWN""");
    }

    private static void putsThatAreRefused() {
        stories.tell("7: UNKNOWN: either, at both ends", """
            world ROOM THING; put(-1|2|NONE|64|MIN|MAX, 0) = UNKNOWN; put(1, -1|2|NONE|64|MIN|MAX) = UNKNOWN;
            put(2, 2) = UNKNOWN; put(1, 0) = 0""");
        stories.tell("7: STATE: it is a ROOM, a DOOR", """
            world ROOM DOOR CARRIER ROOM; put(0, 2|3|0) = STATE; put(1, 0|2) = STATE; place(0|1, 0) = NONE;
            count(3) = 0""");
        stories.tell("7: STATE: the other one is no HOLDER", """
            world THING DOOR BACKDROP THING ROOM CARRIER PERSON; put(0, 1|2|3) = STATE; put(0, 0) = STATE;
            put(6, 0) = STATE; put(0, 6) = 0; put(3, 5) = 1; put(5, 4) = 2""");
        stories.tell("7: STATE: for a BACKDROP no ROOM", """
            world BACKDROP CARRIER PERSON ROOM THING DOOR BACKDROP; put(0, 1|2|4|5|6|0) = STATE; put(0, 3) = 0""");
        stories.tell("7: STATE: it lies there already", """
            world ROOM THING BACKDROP; put(1, 0) = 0; put(1, 0) = STATE; put(2, 0) = 1; put(2, 0) = STATE;
            count(3) = 2; says(0, 2) = 1""");
        stories.tell("7: UNKNOWN ahead of STATE", """
            world ROOM; put(0, 1) = UNKNOWN; put(1, 0) = UNKNOWN; put(0, 0) = STATE""");
        stories.tell("Terms 2: ROOMS, DOORS of KINDS of one's own lie nowhere either", """
            kind(1); kind(2); kind(3); world CARRIER; thing(6, 0); thing(7, 0); thing(8, 0); put(1|2|3, 0) = STATE;
            put(3, 1) = 0; put(0, 1) = 1; put(0, 2) = STATE""");
    }

    private static void putsWithinThemselves() {
        stories.tell("7: STATE: it would lie in itself", """
            world CARRIER PERSON; put(0, 0) = STATE; put(1, 1) = STATE; put(0, 1) = 0""");
        stories.tell("7: STATE: it would lie in what lies in it", """
            world CARRIER CARRIER; put(0, 1) = 0; put(1, 0) = STATE; place(1, 0) = NONE; says(1, 0) = 2""");
        stories.tell("7: STATE: within itself through many", """
            64 x thing(4, 1) = 0 ..; put(1, 0) = 0; put(2, 1) = 1; put(3, 2) = 2; put(4, 3) = 3; put(5, 4) = 4;
            put(0, 5|4|3|2|1) = STATE; put(0, 6) = 5; put(6, 5) = STATE; says(6, 0) = 7""");
        stories.tell("7: STATE: within itself, ahead of AGAINST the put() elsewhere", """
            world CARRIER CARRIER ROOM; put(0, 1) = 0; put(1, 2) = 1; put(1, 0) = STATE; put(0, 2) = AGAINST 0""");
    }

    private static void putsOfBackdrops() {
        stories.tell("7: FULL: also a BACKDROP's 6", """
            7 x thing(1, 0) = 0 ..; thing(3, 9) = 7; thing(3, 9) = 8; put(7, 6|5|4|3|2|1) = 0 ..; put(7, 0) = FULL;
            put(7, 6|1) = STATE; put(8, 0) = 6; place(7, 0) = 6; place(7, 5) = 1; place(7, 6) = NONE;
            count(3) = 7""");
        stories.tell("7: FULL (a BACKDROP's 6) ahead of AGAINST", """
            7 x thing(1, 0) = 0 ..; thing(3, 9) = 7; bar(7, 0) = 0; put(7, 6|5|4|3|2|1) = 1 ..;
            put(7, 0) = FULL""");
        stories.tell("7: a BACKDROP's put() elsewhere, a MOST do not stand against it; a bar() does", """
            world ROOM ROOM ROOM BACKDROP THING; most(0, 0) = 0; most(1, 0) = 1; put(3, 0) = 2; put(3, 1) = 3;
            bar(3, 2) = 4; put(3, 2) = AGAINST 4; put(4, 0) = AGAINST 0""");
    }

    private static void putsThatGoAgainst() {
        stories.tell("7: AGAINST the put() of it elsewhere, settle()'s too", """
            world ROOM CARRIER THING; put(2, 0) = 0; put(2, 1) = AGAINST 0; among(1, {0}) = 1; settle() = 1;
            thing(1, 0); put(1, 3) = AGAINST 2""");
        stories.tell("7: AGAINST the first bar() of it there", """
            world ROOM ROOM THING THING; bar(2, 1) = 0; bar(3, 0) = 1; bar(2, 0) = 2; bar(2, 0) = 3;
            put(2, 0) = AGAINST 2; put(2, 1) = AGAINST 0; put(3, 1) = 4; put(3, 0) = AGAINST 4""");
        stories.tell("7: AGAINST the latest among(), if its SET has not that", """
            world ROOM ROOM ROOM THING THING; among(3, {0 1}) = 0; among(4, {2}) = 1; among(3, {0 1 2}) = 2;
            put(3, 2) = AGAINST 2; put(4, 0) = AGAINST 1; put(3, 1) = 3; set(3) = 3""");
        stories.tell("7: AGAINST the MOST, if it has as many already", """
            world ROOM THING THING THING BACKDROP; most(0, 2) = 0; put(4, 0) = 1; put(1, 0) = 2; put(2, 0) = 3;
            put(3, 0) = AGAINST 0; place(3, 0) = NONE""");
        stories.tell("7: AGAINST a MOST of 0; a MOST of 64 lets all", """
            world ROOM CARRIER THING; most(0, 0) = 0; most(1, 64) = 1; put(2, 0) = AGAINST 0; put(2, 1) = 2;
            put(1, 0) = AGAINST 0""");
        stories.tell("7: a MOST heeds what lies in it, not what lies within that", """
            world ROOM CARRIER THING THING; most(0, 1) = 0; put(2, 1) = 1; put(3, 1) = 2; put(1, 0) = 3""");
        stories.tell("7: AGAINST the first PAIR of it with a THING that was put, and that it would go against", """
            world ROOM ROOM THING THING THING THING; pair(2, 5, true) = 0; pair(2, 3, true) = 1;
            pair(4, 2, false) = 2; pair(2, 3, true) = 3; put(3, 0) = 4; put(2, 1) = AGAINST 1; put(4, 0) = 5;
            put(2, 0) = AGAINST 2; put(2, 1) = AGAINST 1; place(2, 0) = NONE""");
        stories.tell("7: a PAIR with a THING that was not put does not count", """
            world ROOM ROOM THING THING; pair(2, 3, false) = 0; among(3, {0}) = 1; put(2, 0) = 2;
            put(3, 0) = AGAINST 0""");
    }

    private static void putsInOrder() {
        stories.tell("7: of all that stand against it the first that is named", """
            world ROOM ROOM THING THING THING; most(0, 1) = 0; put(2, 0) = 1; pair(3, 2, false) = 2;
            put(3, 0) = AGAINST 0; among(3, {1}) = 3; put(3, 0) = AGAINST 3; bar(3, 0) = 4; put(3, 0) = AGAINST 4;
            put(3, 1) = 5; put(3, 0) = AGAINST 5""");
        stories.tell("7: FULL ahead of AGAINST, STATE ahead of FULL", """
            world ROOM ROOM THING CARRIER BACKDROP; put(2, 0) = 0; bar(4, 1) = 1; 298 x bar(3, 1); put(2, 1) = FULL;
            put(3, 0) = FULL; put(4, 1) = FULL; put(2, 0) = STATE; put(0, 1) = STATE; put(3, 3) = STATE;
            put(5, 0) = UNKNOWN; place(3, 0) = NONE; count(3) = 300""");
        stories.tell("Terms: 300 SENTENCES at most: a put() is the last one", """
            world ROOM THING CARRIER; 299 x bar(2, 0); put(1, 0) = 299; put(2, 0) = FULL; place(1, 0) = 0""");
    }

    private static void bars() {
        stories.tell("8: UNKNOWN, either, at both ends", """
            world ROOM THING; bar(-1|2|64|NONE|MIN|MAX, 0) = UNKNOWN; bar(1, -1|2|64|NONE|MIN|MAX) = UNKNOWN;
            bar(1, 0) = 0""");
        stories.tell("8: STATE: it is a ROOM, a DOOR, the other one no HOLDER", """
            world ROOM DOOR CARRIER THING BACKDROP PERSON; bar(0, 2|0) = STATE; bar(1, 0|2) = STATE;
            bar(3, 1|3|4) = STATE; bar(4, 0|2|5) = 0 ..; bar(2, 0|2|5) = 3 ..; bar(3, 5) = 6; count(3) = 7""");
        stories.tell("8: UNKNOWN ahead of STATE, STATE ahead of FULL, FULL ahead of AGAINST", """
            world ROOM THING CARRIER DOOR; put(1, 0) = 0; among(2, {0}) = 1; 298 x bar(1, 2); bar(1, 0) = FULL;
            bar(2, 0) = FULL; bar(3, 0) = STATE; bar(1, 3) = STATE; bar(3, 4) = UNKNOWN; bar(4, 0) = UNKNOWN;
            count(3) = 300""");
        stories.tell("8: AGAINST the put() of it there", """
            world ROOM ROOM BACKDROP THING; put(2, 1) = 0; put(2, 0) = 1; put(3, 1) = 2; bar(2, 0) = AGAINST 1;
            bar(2, 1) = AGAINST 0; bar(3, 1) = AGAINST 2; bar(3, 0) = 3""");
        stories.tell("8: AGAINST the latest among(), if nothing would be left of its SET", """
            world ROOM ROOM ROOM THING THING; among(3, {0 1}) = 0; among(4, {0}) = 1; among(3, {0 1 2}) = 2;
            bar(3, 0) = 3; set(3) = 2; bar(3, 1) = AGAINST 2; set(3) = 2; bar(3, 2) = 4; bar(3, 0) = 5;
            set(3) = 2""");
        stories.tell("8: AGAINST the put() ahead of the among()", """
            world ROOM ROOM THING; among(2, {0}) = 0; put(2, 0) = 1; bar(2, 0) = AGAINST 1; bar(2, 1) = 2""");
        stories.tell("8: a refused bar() bars nothing", """
            world ROOM THING DOOR; bar(2, 0) = STATE; bar(1, 2) = STATE; among(1, {0}) = 0; bar(1, 0) = AGAINST 0;
            put(1, 0) = 1""");
    }

    private static void givesThatAreRefused() {
        stories.tell("9: UNKNOWN: the THING, the PROPERTY, at both ends", """
            world THING; property(0, 4, 0); give(-1|1|64|MIN|MAX, 0, 0) = UNKNOWN;
            give(0, -1|1|12|MIN|MAX, 0) = UNKNOWN; give(0, 0, 0) = 0""");
        stories.tell("9: UNKNOWN: v, ahead of STATE", """
            world THING ROOM; property(1, 8, 0); give(0, 0, 2|-1) = UNKNOWN; give(0, 0, 0|NONE) = STATE;
            give(1, 0, 2|-1|64) = UNKNOWN; give(1, 0, 1) = 0""");
        stories.tell("9: STATE ahead of FULL, FULL ahead of STORE, of AGAINST", """
            world ROOM THING; property(0, 8, 1); property(1, 4, 0); give(0, 0, 0) = 0; 299 x bar(1, 0);
            give(1, 1, 5) = STATE; give(1, 0, 0) = FULL; give(1, 0, 1) = FULL; give(0, 0, NONE) = FULL;
            give(0, 1, 3) = FULL; give(1, 0, 2) = UNKNOWN; fault() = 0; value(1, 0) = NONE; given(1, 0) = NONE""");
        stories.tell("9: STATE ahead of STORE", """
            world ROOM THING; property(1, 8, 1); give(1, 0, 1) = STATE; give(0, 0, 1) = STORE;
            give(0, 0, 0) = 0""");
        stories.tell("9: STORE ahead of AGAINST", """
            world ROOM THING; property(0, 8, 1); give(0, 0, 0) = 0; give(0, 0, 1) = STORE;
            give(0, 0, NONE) = AGAINST 0; value(0, 0) = 0""");
        stories.tell("9: STORE ahead of anything GIVEN leaves nothing GIVEN", """
            world ROOM THING; property(0, 8, 1); give(1, 0, 1) = STORE; given(1, 0) = NONE; value(1, 0) = NONE;
            give(1, 0, NONE) = 0; given(1, 0) = 0""");
        stories.tell("9: the last SENTENCE there may be", """
            world ROOM THING; property(0, 4, 0); 299 x bar(1, 0); give(0, 0, 5) = 299; give(0, 0, 5) = FULL;
            given(0, 0) = 299; value(0, 0) = 5""");
    }

    private static void givesThatGoAgainst() {
        stories.tell("9: AGAINST the give() of it, if that told another one", """
            world THING THING; property(0, 4, 0); property(0, 4, 0); give(0, 0, 5) = 0; give(1, 0, 6) = 1;
            give(0, 1, 7) = 2; give(0, 0, 6) = AGAINST 0; give(1, 0, 5) = AGAINST 1; give(0, 1, 5) = AGAINST 2;
            value(0, 0) = 5; given(0, 0) = 0""");
        stories.tell("9: as the cell tells it: bytes", """
            world THING; property(0, 1, 0); give(0, 0, 255) = 0; give(0, 0, -1) = 1; give(0, 0, 254) = AGAINST 1;
            give(0, 0, 511) = 2; value(0, 0) = -1; given(0, 0) = 2""");
        stories.tell("9: as the cell tells it: truths", """
            world THING; property(0, 0, 0); give(0, 0, 5) = 0; give(0, 0, LMIN) = 1; give(0, 0, 0) = AGAINST 1;
            value(0, 0) = 1""");
        stories.tell("9: as the cell tells it: ints, longs, floats", """
            world THING; property(0, 4, 0); property(0, 5, 0); property(0, 6, 0); give(0, 0, 4294967297) = 0;
            give(0, 0, 1) = 1; give(0, 1, 4294967297) = 2; give(0, 1, 1) = AGAINST 2; give(0, 2, 16777217) = 3;
            give(0, 2, 16777216) = 4; give(0, 2, 16777218) = AGAINST 4""");
        stories.tell("9: as the cell tells it: nothing and a THING", """
            world THING; property(0, 8, 0); give(0, 0, NONE) = 0; give(0, 0, 0) = AGAINST 0; give(0, 0, NONE) = 1;
            given(0, 0) = 1""");
        stories.tell("9: 0 that was GIVEN is told; a USUAL is not", """
            world THING; property(0, 4, 0); usual(0, 0, 9); give(0, 0, 0) = 0; give(0, 0, 9) = AGAINST 0""");
    }

    private static void values() {
        stories.tell("10: UNKNOWN, at both ends; STATE", """
            world THING ROOM; property(1, 5, 0); value(-1|2|64|MIN|MAX, 0) = UNKNOWN;
            value(1, -1|1|12|MIN|MAX) = UNKNOWN; value(0, 0) = STATE; value(1, 0) = 0; value(0, 1) = UNKNOWN;
            value(2, 1) = UNKNOWN""");
        stories.tell("10: numbers that look like refusals", """
            world ROOM; property(0, 5, 0); give(0, 0, -3) = 0; value(0, 0) = -3; fault() = 0""");
    }

    private static void givenOnes() {
        stories.tell("11: UNKNOWN, at both ends", """
            world THING; property(0, 4, 0); given(-1|1|64|MIN|MAX, 0) = UNKNOWN;
            given(0, -1|1|12|MIN|MAX) = UNKNOWN; given(0, 0) = NONE""");
        stories.tell("11: NONE where the PROPERTY is not for it, and with a USUAL alone", """
            world THING ROOM; property(1, 4, 0); usual(1, 0, 3); given(0, 0) = NONE; given(1, 0) = NONE;
            give(1, 0, 4) = 0; given(1, 0) = 0; given(0, 0) = NONE""");
        stories.tell("11: the latest SENTENCE that gave it that", """
            world THING THING; property(0, 4, 0); property(0, 4, 0); give(0, 0, 4) = 0; give(0, 1, 4) = 1;
            give(1, 0, 4) = 2; give(0, 0, 4) = 3; give(0, 0, 5) = AGAINST 3; given(0, 0) = 3; given(0, 1) = 1;
            given(1, 0) = 2; given(1, 1) = NONE""");
    }

    private static void peeks() {
        stories.tell("12: UNKNOWN ahead of OUTSIDE ahead of CAST ahead of INDEX", """
            property(0, 4, 0); peek(1|-1|12|MIN|MAX, 4, 0) = UNKNOWN; peek(1, 9, 64) = UNKNOWN;
            peek(0, 9|-1|MIN|MAX, 0) = OUTSIDE; peek(0, 9|-1, 64) = OUTSIDE; peek(0, 0|1|2|3|5|6|7|8, 0) = CAST;
            peek(0, 5|8, 64|-1) = CAST; peek(0, 4, 64|-1|MIN|MAX) = INDEX; fault() = 2; peek(0, 4, 0|63) = 0""");
        stories.tell("12: each LANE taken for each other one is CAST", """
            property(0, 0|1|2|3|4|5|6|7|8, 0) = 0 ..; peek(0, 1|2|3|4|5|6|7|8, 0) = CAST;
            peek(1, 0|2|3|4|5|6|7|8, 0) = CAST; peek(2, 0|1|3|4|5|6|7|8, 0) = CAST;
            peek(3, 0|1|2|4|5|6|7|8, 0) = CAST; peek(5, 0|1|2|3|4|6|7|8, 0) = CAST;
            peek(6, 0|1|2|3|4|5|7|8, 0) = CAST; peek(7, 0|1|2|3|4|5|6|8, 0) = CAST;
            peek(8, 0|1|2|3|4|5|6|7, 0) = CAST; fault() = 3; peek(0, 0, 63) = 0; peek(1, 1, 63) = 0;
            peek(8, 8, 63) = NONE""");
        stories.tell("12: 64 cells, one a THING, also where there is none yet", """
            world ROOM; property(1, 5, 0); property(0, 8, 1); usual(1, 0, 7); peek(0, 5, 0|1|63) = 0;
            peek(1, 8, 0|63) = NONE; give(0, 0, LMIN) = 0; give(0, 1, 0) = 1; peek(0, 5, 0) = LMIN;
            peek(0, 5, 1) = 0; peek(1, 8, 0) = 0; peek(1, 8, 1) = NONE""");
        stories.tell("12: the last cell", """
            64 x thing(0, 0) = 0 ..; property(0, 1, 0); give(63, 0, 300) = 0; peek(0, 1, 63) = 44;
            peek(0, 1, 62) = 0; peek(0, 1, 64) = INDEX""");
    }

    private static void places() {
        stories.tell("13: UNKNOWN, at both ends; NONE for any other k", """
            world ROOM THING; place(-1|2|64|MIN|MAX, 0) = UNKNOWN; place(1, 0) = NONE; put(1, 0) = 0;
            place(1, 0) = 0; place(1, 1|-1|6|MIN|MAX) = NONE; place(0, 0) = NONE""");
        stories.tell("13: as they were told, 0 the first", """
            world ROOM ROOM ROOM BACKDROP BACKDROP; put(3, 2) = 0; put(4, 1) = 1; put(3, 0) = 2; place(3, 0) = 2;
            place(3, 1) = 0; place(3, 2|-1) = NONE; place(4, 0) = 1; place(4, 1) = NONE""");
        stories.tell("13: a SET of one HOLDER is no place yet", """
            world ROOM THING; among(1, {0}) = 0; place(1, 0) = NONE; settle() = 1; place(1, 0) = 0""");
    }

    private static void sayings() {
        stories.tell("14: UNKNOWN ahead of OUTSIDE ahead of CAST", """
            world THING; says(-1|1|64|MIN|MAX, 0) = UNKNOWN; says(1, 5|-1) = UNKNOWN;
            says(0, -1|5|MIN|MAX) = OUTSIDE; says(0, 2|3|4) = CAST; says(0, 0) = 1; says(0, 1) = 4""");
        stories.tell("14: who has a LOAD, a LID, a STRIDE", """
            world THING ROOM DOOR BACKDROP CARRIER PERSON; says(0|2|3, 2) = CAST; says(1|4|5, 2) = 0;
            says(0|1|3, 3) = CAST; says(2, 3) = 10; says(4|5, 3) = 1; says(0|1|2|3|4, 4) = CAST;
            says(5, 4) = QUOTIENT""");
    }

    private static void bulks() {
        stories.tell("Terms 2: BULK at both ends of SIZE", """
            thing(0, 0|1000) = 0 ..; thing(1, 0|1000) = 2 ..; thing(2, 0|1000) = 4 ..; thing(3, 0|1000) = 6 ..;
            thing(4, 0|1000) = 8 ..; thing(5, 0|1000) = 10 ..; says(0, 0) = 0; says(1, 0) = 1000; says(2|3, 0) = 0;
            says(4, 0) = 0; says(5, 0) = 2000; says(6|7, 0) = 0; says(8, 0) = 0; says(9, 0) = 1000;
            says(10, 0) = 10; says(11, 0) = 1010""");
        stories.tell("Terms 2: BULK: a CARRIER's SIZE and LOAD, a PERSON's that and 10, a ROOM's LOAD", """
            thing(1, 500); thing(4, 7); thing(5, 20); thing(0, 3); thing(3, 900); put(3, 2) = 0; put(2, 1) = 1;
            put(1, 0) = 2; put(4, 0) = 3; says(2, 0) = 33; says(2, 2) = 3; says(1, 0) = 40; says(1, 2) = 33;
            says(0, 0) = 40; says(0, 2) = 40; says(3, 0) = 3""");
        stories.tell("Terms 2: BACKDROPS have no BULK in any of their ROOMS", """
            world ROOM ROOM BACKDROP THING; put(2, 0) = 0; put(2, 1) = 1; put(3, 1) = 2; says(0, 2) = 0;
            says(1, 2) = 1; says(2, 1) = -4""");
        stories.tell("Terms 2: 64 within one another", "64 x thing(5, 1000) = 0 ..;"
            + Stories.each(1, 63, k -> "put(" + k + ", " + (k - 1) + ") = " + (k - 1)) + """
            put(0, 63|62|1|0) = STATE; says(0, 0) = 64640; says(0, 2) = 63630; says(63, 2) = 0; says(62, 2) = 1010;
            says(0, 4) = 0; says(62, 4) = 0""");
        stories.tell("Terms 2: 63 side by side", "thing(1, 0) = 0; 63 x thing(0, 1000) = 1 ..;"
            + Stories.each(1, 63, k -> "put(" + k + ", 0) = " + (k - 1)) + "says(0, 2) = 63000; says(0, 0) = 63000");
    }

    private static void worthsLidsStrides() {
        stories.tell("Terms 2: WORTH at both ends of SIZE", """
            thing(0, 0|1000) = 0 ..; thing(1, 0|1000) = 2 ..; thing(2, 0|1000) = 4 ..; thing(3, 0|1000) = 6 ..;
            thing(4, 0|1000) = 8 ..; thing(5, 0|1000) = 10 ..; says(0, 1) = 1; says(1, 1) = 3001; says(2, 1) = 1001;
            says(3, 1) = 4001; says(4, 1) = 101; says(5, 1) = 3101; says(6, 1) = -1; says(7, 1) = -3001;
            says(8, 1) = 1; says(9, 1) = 3001; says(10, 1) = 2; says(11, 1) = 6002; fault() = 0""");
        stories.tell("Terms 2: a LID at both ends of MARKS, open or not", """
            thing(2, 0) = 0; thing(4, 0) = 1; thing(2, 1000) = 2; thing(5, 1000) = 3; says(0, 3) = 0;
            says(1, 3) = 0; says(2, 3) = 10000; says(3, 3) = 1000; open(0|1|2|3, true) = 0; says(0, 3) = 1;
            says(1, 3) = 1000; says(2, 3) = 10001; says(3, 3) = 2000; remark(2, 1, 0) = 1000; says(2, 3) = 1;
            remark(2, 0, 7) = 1000; says(2, 3) = 1""");
        stories.tell("Terms 2: a STRIDE is 1000 / LOAD, cut; QUOTIENT without LOAD", """
            thing(5, 1000) = 0; thing(0, 0) = 1; thing(0, 1) = 2; thing(0, 2) = 3; thing(0, 997) = 4;
            thing(0, 1) = 5; says(0, 4) = QUOTIENT; put(1, 0) = 0; says(0, 4) = QUOTIENT; fault() = 6;
            put(2, 0) = 1; says(0, 4) = 1000; put(3, 0) = 2; says(0, 4) = 333; put(4, 0) = 3; says(0, 4) = 1;
            put(5, 0) = 4; says(0, 4) = 0""");
        stories.tell("Terms 2: a MARK is no SIZE, a SIZE no LOAD", """
            thing(5, 4) = 0; remark(0, 0, 9) = 4; remark(0, 1, 8) = 4; says(0, 0) = 14; says(0, 1) = 26;
            says(0, 2) = 0; says(0, 3) = 8""");
    }

    private static void follows() {
        stories.tell("15: UNKNOWN: THING, PROPERTY, at both ends, ahead of OUTSIDE", """
            world THING; property(0, 8, 0); follow(-1|1|64|MIN|MAX, 0, 0) = UNKNOWN;
            follow(0, -1|1|12|MIN|MAX, 0) = UNKNOWN; follow(1, 0, 5) = UNKNOWN; follow(0, 1, -1) = UNKNOWN;
            follow(0, 0, -1|5|MIN|MAX) = OUTSIDE; follow(0, 0, 0|4) = NULL""");
        stories.tell("15: OUTSIDE ahead of STATE ahead of CAST ahead of NULL", """
            world THING ROOM; property(1, 4, 0); property(0, 4, 0); property(0, 8, 0); follow(0, 0, 5|-1) = OUTSIDE;
            follow(0, 0, 0) = STATE; follow(1, 0, 0) = CAST; follow(0, 1, 5) = OUTSIDE; follow(0, 1, 0) = CAST;
            follow(0, 2, 5) = OUTSIDE; follow(0, 2, 0) = NULL; fault() = 1""");
        stories.tell("15: STATE ahead of NULL", """
            world THING ROOM; property(1, 8, 0); follow(0, 0, 0) = STATE; follow(1, 0, 0) = NULL""");
        stories.tell("15: CAST for each LANE but 8", """
            world THING; property(0, 0|1|2|3|4|5|6|7, 0) = 0 ..; usual(0, 0|1|2|3|4|5|6|7, 0) = 1;
            follow(0, 0|1|2|3|4|5|6|7, 0) = CAST""");
        stories.tell("15: NULL: it has nothing, at first, GIVEN so, or USUAL so", """
            world THING PERSON; property(0, 8, 0); follow(0, 0, 0) = NULL; usual(0, 0, 1); follow(0, 0, 0) = 11;
            give(0, 0, NONE) = 0; follow(0, 0, 0) = NULL; usual(5, 0, NONE); follow(1, 0, 0) = NULL""");
        stories.tell("15: then as says(): CAST, QUOTIENT", """
            world THING PERSON DOOR; property(0, 8, 0); give(0, 0, 1) = 0; give(1, 0, 0) = 1; give(2, 0, 2) = 2;
            follow(0, 0, 0) = 11; follow(0, 0, 1) = 8; follow(0, 0, 2) = 0; follow(0, 0, 3) = 1;
            follow(0, 0, 4) = QUOTIENT; follow(1, 0, 2|3|4) = CAST; follow(2, 0, 2|4) = CAST;
            follow(2, 0, 3) = 10""");
    }

    private static void marks() {
        stories.tell("16: UNKNOWN ahead of OUTSIDE ahead of CAST", """
            world THING; mark(-1|1|64|MIN|MAX, 0) = UNKNOWN; mark(1, 2) = UNKNOWN; mark(0, -1|2|MIN|MAX) = OUTSIDE;
            mark(0, 1) = CAST; mark(0, 0) = 1""");
        stories.tell("16: who has a MARK of its own", """
            thing(0, 0) = 0; thing(1, 1000) = 1; thing(2, 2) = 2; thing(3, 3) = 3; thing(4, 4) = 4; thing(5, 5) = 5;
            mark(0|1|3, 1) = CAST; mark(2, 1) = 2; mark(4, 1) = 4; mark(5, 1) = 5; mark(0, 0) = 0;
            mark(1, 0) = 1000; mark(2, 0) = 2; mark(3, 0) = 3; mark(4, 0) = 4; mark(5, 0) = 5""");
    }

    private static void remarks() {
        stories.tell("17: as mark()", """
            world THING DOOR; remark(-1|2|64|MIN|MAX, 0, 0) = UNKNOWN; remark(2, 2, 1001) = UNKNOWN;
            remark(0, -1|2|MIN|MAX, 0) = OUTSIDE; remark(0, 1, 0) = CAST; remark(1, 1, 0) = 1;
            remark(0, 0, 0) = 1""");
        stories.tell("17: OUTSIDE: v is not 0 .. 1000", """
            world DOOR; remark(0, 0|1, -1|1001|MIN|MAX) = OUTSIDE; mark(0, 0|1) = 1; remark(0, 0, 0) = 1;
            remark(0, 0, 1000) = 0; remark(0, 0, 5) = 1000; remark(0, 1, 1000) = 1; remark(0, 1, 0) = 1000;
            mark(0, 0) = 5; mark(0, 1) = 0""");
        stories.tell("17: OUTSIDE ahead of CAST", """
            world ROOM; remark(0, 1, 1001|-1) = OUTSIDE; remark(0, 1, 1000) = CAST""");
        stories.tell("17: each THING has its own", """
            64 x thing(4, 3) = 0 ..; remark(63, 0, 7) = 3; remark(62, 1, 8) = 3; mark(63, 0) = 7; mark(63, 1) = 3;
            mark(62, 0) = 3; mark(62, 1) = 8; mark(0, 0|1) = 3""");
    }

    private static void opens() {
        stories.tell("18: UNKNOWN ahead of CAST", """
            world THING ROOM BACKDROP; open(-1|3|64|MIN|MAX, true|false) = UNKNOWN; open(0|1|2, true|false) = CAST;
            fault() = 3""");
        stories.tell("18: whether it was", """
            world DOOR CARRIER PERSON; open(0|1|2, false) = 0; open(0|1|2, true) = 0; open(0|1|2, true) = 1;
            open(0|1|2, false) = 1; open(0|1|2, false) = 0""");
        stories.tell("18: the first and the last THING", """
            64 x thing(2, 0) = 0 ..; open(63, true) = 0; open(0, false) = 0; open(63, false) = 1; open(0, true) = 0;
            open(32|31, false) = 0; says(0, 3) = 1; says(63, 3) = 0""");
    }
}
