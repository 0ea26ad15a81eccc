/** The edges of promises 1 to 5, and of what the terms say of kinds, properties and cells. */
public final class KindEdgesTest {
    private static final Stories stories = new Stories("KindEdgesTest");

    public static void main(String[] args) {
        newObject();
        kinds();
        whetherKindsAre();
        bases();
        properties();
        usuals();
        usualsInOrder();
        nearestUsuals();
        cellsOfNumbers();
        cellsOfThings();
        stories.end();
    }

    private static void newObject() {
        stories.tell("1: six KINDS, nothing else", """
            count(0) = 6; count(1|2|3|4|5|6|7|8|9) = 0; is(5, 4) = 1; is(6, 0) = UNKNOWN; fault() = 0; came() = 0;
            digest() = 17; word(0|-1) = NONE; set(0|-1|63) = 0; sentence(0, 0) = UNKNOWN; settle() = 0;
            make() = STATE; clear() = 0""");
        stories.tell("1: there is no PROPERTY, THING, RELATION, SHELF, TABLE yet", """
            usual(0, 0, 0) = UNKNOWN; put(0, 0) = UNKNOWN; bar(0, 0) = UNKNOWN; give(0, 0, 0) = UNKNOWN;
            value(0, 0) = UNKNOWN; given(0, 0) = UNKNOWN; peek(0, 0, 0) = UNKNOWN; place(0, 0) = UNKNOWN;
            says(0, 0) = UNKNOWN; follow(0, 0, 0) = UNKNOWN; mark(0, 0) = UNKNOWN; remark(0, 0, 0) = UNKNOWN;
            open(0, true) = UNKNOWN; among(0, 0|1) = UNKNOWN; pair(0, 0|1, true) = UNKNOWN; most(0, 0) = UNKNOWN;
            relate(0, 0, 0) = UNKNOWN; deny(0, 0, 0) = UNKNOWN; related(0, 0, 0) = UNKNOWN;
            along(0, 0, 0) = UNKNOWN; next(0, 0, 0) = UNKNOWN; exit(0, 0, NONE) = UNKNOWN;
            door(0, 0, 0, 0) = UNKNOWN; leads(0, 0) = UNKNOWN; sort(0, 0) = UNKNOWN; route(0, 0, true) = UNKNOWN;
            first(0, 0, true) = UNKNOWN; stand(0, 0, NONE) = UNKNOWN; stands(0, 0) = UNKNOWN;
            haul(0, 0, 0, 0, 0) = UNKNOWN; fill(0, 0, 0, 0) = UNKNOWN; blank(0, 0, 0) = UNKNOWN;
            read(0, 0, 0) = UNKNOWN; choose(0, 0, 0, 0) = UNKNOWN; rank(0, 0, true) = UNKNOWN;
            total(0, 0) = UNKNOWN; mean(0, 0) = UNKNOWN""");
    }

    private static void kinds() {
        stories.tell("2: UNKNOWN at both ends of the first six", "kind(-1|6|-9|MIN|MAX) = UNKNOWN; count(0) = 6");
        stories.tell("2: under each of the first six", "kind(0|1|2|3|4|5) = 6 ..; count(0) = 12");
        stories.tell("2: the latest is a PARENT, the next is none", """
            kind(6) = UNKNOWN; kind(5) = 6; kind(7) = UNKNOWN; kind(6) = 7; kind(7) = 8; kind(9) = UNKNOWN;
            is(8, 5) = 1; is(8, 6) = 1""");
        stories.tell("2: KINDS 0 .. 23, FULL behind, UNKNOWN ahead of FULL", """
            17 x kind(0) = 6 ..; kind(22) = 23; kind(0|23) = FULL; kind(24|-1|MIN|MAX) = UNKNOWN; count(0) = 24;
            is(23, 22) = 1; is(24, 0) = UNKNOWN; thing(23, 0) = 0; thing(24, 0) = UNKNOWN""");
    }

    private static void whetherKindsAre() {
        stories.tell("3: UNKNOWN, either", """
            is(-1|6|MIN|MAX, 0) = UNKNOWN; is(0, -1|6|MIN|MAX) = UNKNOWN; is(6, 6) = UNKNOWN; is(0, 0) = 1;
            is(5, 5) = 1; kind(0); is(6, 6) = 1; is(7, 6) = UNKNOWN; is(6, 7) = UNKNOWN""");
        stories.tell("Terms 1: each of the first five behind THING has the PARENT 0, PERSON has the PARENT 4", """
            is(0|1|2|3|4|5, 0) = 1; is(0, 1|2|3|4|5) = 0; is(1|2|3|4, 5) = 0; is(5, 4) = 1; is(4, 5) = 0;
            is(5, 1|2|3) = 0; is(1, 2|3|4) = 0; is(2, 1|3|4) = 0; is(3, 1|2|4) = 0; is(4, 1|2|3) = 0""");
        stories.tell("Terms 1: a KIND IS itself, and all that its PARENT IS, through all of 24", """
            kind(5|6|7|8|9|10|11|12|13|14|15|16|17|18|19|20|21|22) = 6 ..; is(23, 0|4|5|6|7|12|22|23) = 1;
            is(23, 1|2|3) = 0; is(22, 23) = 0; is(6, 7) = 0; is(12, 11) = 1""");
        stories.tell("3: brothers are not one another", """
            kind(4); kind(4); kind(6); is(6, 7) = 0; is(7, 6) = 0; is(8, 7) = 0""");
    }

    private static void bases() {
        stories.tell("Terms 1: the BASE is the first of the six, by PARENTS, itself first", """
            kind(5); kind(6); kind(4); kind(0); kind(1); thing(7, 1) = 0; thing(8, 1) = 1; thing(9, 1) = 2;
            thing(10, 1) = 3; says(0, 1) = 8; says(1, 1) = 4; says(2, 1) = 4; says(3, 1) = 1004;
            says(0, 4) = QUOTIENT; says(1, 4) = CAST; says(1, 3) = 1; says(2, 3) = CAST; says(3, 2) = 0""");
    }

    private static void properties() {
        stories.tell("4: UNKNOWN: the KIND, at both ends", """
            property(-1|6|MIN|MAX, 0, 0) = UNKNOWN; property(5, 0, 0) = 0; kind(0); property(6, 0, 0) = 1;
            property(7, 0, 0) = UNKNOWN""");
        stories.tell("4: UNKNOWN: OF, at both ends, with LANE 8", """
            property(0, 8, -1|6|NONE|MIN|MAX) = UNKNOWN; property(0, 8, 0|5) = 0 ..; kind(0); property(0, 8, 6) = 2;
            property(0, 8, 7) = UNKNOWN""");
        stories.tell("4: with another LANE than 8 OF is not looked at", """
            property(0, 0|1|2|3|4|5|6|7, 99) = 0 ..; property(0, 0, -1|MIN|MAX) = 8 ..; count(1) = 11""");
        stories.tell("4: OUTSIDE: the LANE, at both ends", """
            property(0, -1|9|MIN|MAX, 0) = OUTSIDE; property(0, 0, 0) = 0; property(0, 8, 0) = 1""");
        stories.tell("4: UNKNOWN ahead of OUTSIDE", "property(6, 9, 0) = UNKNOWN; property(-1, -1, 0) = UNKNOWN");
        stories.tell("4: OF is not looked at where the LANE is OUTSIDE", """
            property(0, 9, 99) = OUTSIDE; property(0, -1, -1) = OUTSIDE""");
        stories.tell("4: PROPERTIES 0 .. 11; FULL behind; UNKNOWN, OUTSIDE ahead of FULL", """
            12 x property(0, 4, 0) = 0 ..; property(0, 0|4|7, 0) = FULL; property(0, 8, 0) = FULL;
            property(6, 0, 0) = UNKNOWN; property(0, 8, 6) = UNKNOWN; property(0, 9|-1, 0) = OUTSIDE; count(1) = 12;
            usual(0, 11, 5) = 1; usual(0, 12, 5) = UNKNOWN; thing(0, 0); value(0, 11) = 5; value(0, 12) = UNKNOWN;
            give(0, 11, 6) = 0; give(0, 12, 6) = UNKNOWN; peek(11, 4, 0) = 6; peek(12, 4, 0) = UNKNOWN""");
    }

    private static void usuals() {
        stories.tell("5: UNKNOWN: the KIND, the PROPERTY, at both ends", """
            property(0, 4, 0); usual(-1|6|MIN|MAX, 0, 1) = UNKNOWN; usual(0, -1|1|MIN|MAX, 1) = UNKNOWN;
            usual(5, 0, 1) = 1; kind(5); usual(6, 0, 1) = 1; usual(7, 0, 1) = UNKNOWN""");
        stories.tell("5: UNKNOWN: also v, of LANE 8", """
            property(0, 8, 0); usual(0, 0, 0|-1|-8|-10|64|LMIN|LMAX|4294967296) = UNKNOWN; thing(0, 0);
            usual(0, 0, 0) = 1; usual(0, 0, 1) = UNKNOWN; value(0, 0) = 0; usual(0, 0, NONE) = 1;
            value(0, 0) = NONE""");
        stories.tell("5: no v of another LANE is UNKNOWN", """
            property(0, 0|1|2|3|4|5|6|7, 0) = 0 ..; usual(0, 0|1|2|3|4|5|6|7, -1|-9|99|LMIN|LMAX) = 1""");
        stories.tell("5: STATE: the KIND is none that IS the PROPERTY's", """
            property(4, 4, 0); usual(0|1|2|3, 0, 1) = STATE; usual(4|5, 0, 1) = 1; kind(4); kind(0);
            usual(6, 0, 1) = 1; usual(7, 0, 1) = STATE""");
        stories.tell("5: STORE: its BASE is none that IS that", """
            world THING ROOM DOOR BACKDROP CARRIER PERSON; property(0, 8, 4); usual(0, 0, 0|1|2|3) = STORE;
            usual(0, 0, 4|5|NONE) = 1; fault() = 4; property(0, 8, 5); usual(0, 1, 4) = STORE; usual(0, 1, 5) = 1;
            property(0, 8, 0); usual(0, 2, 0|1|2|3|4|5) = 1""");
        stories.tell("5: a refused USUAL leaves the earlier one", """
            world ROOM THING; property(1, 8, 1); usual(1, 0, 0) = 1; usual(1, 0, 1) = STORE;
            usual(1, 0, 2) = UNKNOWN; usual(0, 0, NONE) = STATE; value(0, 0) = 0""");
    }

    private static void usualsInOrder() {
        stories.tell("5: UNKNOWN ahead of STATE, STATE ahead of STORE", """
            world THING ROOM; property(1, 8, 1); usual(0, 0, 2|-1) = UNKNOWN; usual(6, 0, 0) = UNKNOWN;
            usual(0, 1, 0) = UNKNOWN; usual(0, 0, 0) = STATE; usual(1, 0, 0) = STORE; usual(1, 0, 1) = 1;
            usual(0, 0, NONE) = STATE""");
        stories.tell("5: USUALS are no SENTENCES, and come as often as one likes", """
            property(0, 4, 0); thing(0, 0); 40 x usual(0, 0, 7) = 1; usual(0, 0, 8) = 1; value(0, 0) = 8;
            count(3) = 0; given(0, 0) = NONE; peek(0, 4, 0) = 0""");
    }

    private static void nearestUsuals() {
        stories.tell("Terms 1: what it was GIVEN; else the nearest USUAL; else 0", """
            kind(4); kind(6); thing(7, 0); property(0, 4, 0); value(0, 0) = 0; usual(0, 0, 1); value(0, 0) = 1;
            usual(4, 0, 2); value(0, 0) = 2; usual(7, 0, 4); value(0, 0) = 4; usual(6, 0, 3); value(0, 0) = 4;
            usual(5, 0, 9); value(0, 0) = 4; usual(7, 0, 0); value(0, 0) = 0; give(0, 0, 5) = 0; value(0, 0) = 5;
            usual(7, 0, 6); value(0, 0) = 5""");
        stories.tell("Terms 1: else, with LANE 8, NONE; a USUAL of nothing is nearer than one of something", """
            thing(5, 0); thing(4, 0); property(0, 8, 0); value(0|1, 0) = NONE; usual(4, 0, 1); value(0|1, 0) = 1;
            usual(5, 0, NONE); value(0, 0) = NONE; value(1, 0) = 1; give(0, 0, 0) = 0; value(0, 0) = 0""");
        stories.tell("Terms 1: GIVEN as 0, as nothing, it is GIVEN", """
            thing(0, 0); property(0, 4, 0); property(0, 8, 0); usual(0, 0, 7); usual(0, 1, 0); give(0, 0, 0) = 0;
            give(0, 1, NONE) = 1; value(0, 0) = 0; value(0, 1) = NONE""");
        stories.tell("Terms 1: a PROPERTY is of THINGS that are of a KIND that IS its own", """
            kind(4); world THING CARRIER PERSON; thing(6, 0); property(6, 4, 0); value(0|1|2, 0) = STATE;
            value(3, 0) = 0; give(0|1|2, 0, 1) = STATE; give(3, 0, 1) = 0; property(4, 4, 0); value(0, 1) = STATE;
            value(1|2|3, 1) = 0""");
        stories.tell("Terms 1: a USUAL is of one PROPERTY alone", """
            thing(0, 0); property(0, 4, 0); property(0, 4, 0); usual(0, 1, 3); value(0, 0) = 0;
            value(0, 1) = 3""");
    }

    /** A cell of a lane: what comes in as the first of two tells the second. */
    private static void cell(int lane, long v, long tells) {
        String name = "Terms 1: LANE " + lane + ", " + v;
        stories.tell(name, "thing(0, 0); property(0, " + lane + ", 0); usual(0, 0, " + v + ") = 1; value(0, 0) = "
            + tells + "; give(0, 0, " + v + ") = 0; value(0, 0) = " + tells + "; peek(0, " + lane + ", 0) = " + tells
            + "; table(1, 1, " + lane + "); fill(0, 0, 0, " + v + ") = 1; read(0, 0, 0) = " + tells
            + "; total(0, 0) = " + tells + "; choose(0, 0, " + tells + ", 0) = 0");
    }

    private static void cellsOfNumbers() {
        long[][] rows = {
            {0, 0, 0}, {0, 1, 1}, {0, -1, 1}, {0, 256, 1}, {0, 4294967296L, 1}, {0, Long.MIN_VALUE, 1},
            {1, 127, 127}, {1, 128, -128}, {1, -128, -128}, {1, -129, 127}, {1, 255, -1}, {1, 256, 0},
            {1, Long.MAX_VALUE, -1}, {1, Long.MIN_VALUE, 0},
            {2, 32767, 32767}, {2, 32768, -32768}, {2, -32768, -32768}, {2, -32769, 32767}, {2, 65535, -1},
            {2, 65536, 0}, {2, Long.MAX_VALUE, -1}, {2, Long.MIN_VALUE, 0},
            {3, 65535, 65535}, {3, 65536, 0}, {3, 65537, 1}, {3, 0, 0}, {3, -1, 65535}, {3, -65536, 0},
            {3, 32768, 32768}, {3, Long.MAX_VALUE, 65535}, {3, Long.MIN_VALUE, 0},
            {4, 2147483647L, 2147483647L}, {4, 2147483648L, -2147483648L}, {4, -2147483648L, -2147483648L},
            {4, -2147483649L, 2147483647L}, {4, 4294967295L, -1}, {4, 4294967296L, 0}, {4, Long.MAX_VALUE, -1},
            {4, Long.MIN_VALUE, 0},
            {5, Long.MAX_VALUE, Long.MAX_VALUE}, {5, Long.MIN_VALUE, Long.MIN_VALUE}, {5, -1, -1}, {5, -9, -9},
            {6, 16777216, 16777216}, {6, 16777217, 16777216}, {6, 16777218, 16777218}, {6, 16777219, 16777220},
            {6, -16777217, -16777216}, {6, -16777219, -16777220}, {6, 2147483647L, 2147483648L},
            {6, Long.MAX_VALUE, Long.MAX_VALUE}, {6, Long.MIN_VALUE, Long.MIN_VALUE},
            {6, 9223371761976868863L, 9223371487098961920L}, {6, 9223371761976868864L, Long.MAX_VALUE}, {6, -1, -1},
            {7, 9007199254740992L, 9007199254740992L}, {7, 9007199254740993L, 9007199254740992L},
            {7, 9007199254740995L, 9007199254740996L}, {7, -9007199254740993L, -9007199254740992L},
            {7, 16777217, 16777217}, {7, 9223372036854775295L, 9223372036854774784L},
            {7, 9223372036854775296L, Long.MAX_VALUE}, {7, Long.MAX_VALUE, Long.MAX_VALUE},
            {7, Long.MIN_VALUE, Long.MIN_VALUE}, {7, -1, -1}};
        for (long[] row : rows) {
            cell((int) row[0], row[1], row[2]);
        }
        stories.tell("Terms 1: cells at first tell 0", """
            thing(0, 0); property(0, 0|1|2|3|4|5|6|7, 0) = 0 ..; value(0, 0|1|2|3|4|5|6|7) = 0""");
    }

    private static void cellsOfThings() {
        stories.tell("Terms 1: LANE 8 takes THINGS whose BASE IS the BASE of OF", """
            kind(4); kind(4); world THING ROOM DOOR BACKDROP CARRIER PERSON; thing(6, 0) = 6; thing(7, 0) = 7;
            property(0, 8, 6) = 0; give(0, 0, 0|1|2|3) = STORE; give(0, 0, 4) = 0; give(1, 0, 5) = 1;
            give(2, 0, 6) = 2; give(3, 0, 7) = 3; value(3, 0) = 7; give(4, 0, NONE) = 4; value(4, 0) = NONE""");
        stories.tell("Terms 1: OF a PERSON, a CARRIER is none", """
            world CARRIER PERSON; property(0, 8, 5); give(0, 0, 0) = STORE; give(0, 0, 1) = 0""");
        stories.tell("Terms 1: LANE 8, UNKNOWN: another number that is no THING", """
            world THING; property(0, 8, 0);
            give(0, 0, 1|-1|-8|-10|63|64|LMIN|LMAX|4294967296|-4294967305) = UNKNOWN; value(0, 0) = NONE;
            give(0, 0, 0) = 0""");
    }
}
