/** The edges of promises 49 to 55, and of what the terms say of sentences, faults, and what goes against one. */
public final class WholeEdgesTest {
    private static final Stories stories = new Stories("WholeEdgesTest");

    public static void main(String[] args) {
        makesThatAreRefused();
        wordsOfAll();
        wordsOfRooms();
        wordsOfCouples();
        wordsAsked();
        digests();
        sentences();
        threeHundredSentences();
        againstTheFirstAndTheLast();
        counts();
        faults();
        clears();
        sentencesOfBefore();
        clearsOfTheFull();
        stories.end();
    }

    private static void makesThatAreRefused() {
        stories.tell("49: STATE: there is no ROOM", """
            make() = STATE; world THING DOOR BACKDROP CARRIER PERSON; make() = STATE; count(8) = 0; digest() = 17;
            kind(1); make() = STATE; thing(6, 0) = 5; make() = 28; count(8) = 28""");
        stories.tell("49: STATE: a THING is UNSETTLED; the WORDS stay", """
            world ROOM THING; make() = 16; word(1) = 2; word(6) = NONE; among(1, {0}) = 0; make() = STATE;
            count(8) = 16; word(6) = NONE; settle() = 1; word(6) = NONE; make() = 16; word(6) = 0""");
        stories.tell("49: STATE without a ROOM leaves no WORDS of before clear()", """
            world ROOM; make() = 13; clear() = 1; count(8) = 0; make() = STATE; word(0) = NONE; digest() = 17""");
    }

    private static void wordsOfAll() {
        stories.tell("49: how many KINDS, THINGS; of each its KIND, its first HOLDER, its SIZE", """
            kind(4); thing(1, 1000) = 0; thing(6, 0) = 1; thing(3, 5) = 2; thing(1, 0) = 3; put(1, 0) = 0;
            put(2, 3) = 1; put(2, 0) = 2; make() = 30; word(0) = 7; word(1) = 4; word(2) = 1; word(3) = NONE;
            word(4) = 1000; word(5) = 6; word(6) = 0; word(7) = 0; word(8) = 3; word(9) = 3; word(10) = 5;
            word(11) = 1; word(12) = NONE; word(13) = 0; word(14|29) = NONE; word(30|-1) = NONE""");
        stories.tell("49: what it has by each PROPERTY that is for it, the lowest 32 bits", """
            thing(1, 0) = 0; thing(0, 0) = 1; property(1, 5, 0) = 0; property(0, 4, 0) = 1; property(0, 8, 0) = 2;
            property(5, 4, 0) = 3; give(0, 0, 4294967298) = 0; usual(0, 1, -7); give(1, 2, 0) = 1; make() = 21;
            word(2) = 1; word(5) = 2; word(6) = -7; word(7) = NONE; word(8) = 0; word(11) = -7; word(12) = 0;
            word(13) = NONE; clear() = 2; thing(1, 0) = 0; property(0, 5, 0); give(0, 0, LMIN) = 0; make() = 14;
            word(5) = 0; clear() = 1; thing(1, 0) = 0; property(0, 5, 0); give(0, 0, 2147483648) = 0; make() = 14;
            word(5) = MIN; clear() = 1; thing(1, 0) = 0; property(0, 6, 0); give(0, 0, LMAX) = 0; make() = 14;
            word(5) = -1""");
        stories.tell("49: as many as there may be", """
            64 x thing(1, 9) = 0 ..; 12 x property(0, 4, 0) = 0 ..; 8 x relation(5) = 0 ..; usual(0, 11, 77);
            relate(7, 62, 63) = 0; make() = 1490; count(8) = 1490; word(0) = 6; word(1) = 64; word(16) = 77;
            word(961) = 77; word(962) = NONE; word(1473) = NONE; word(1474) = 5; word(1475) = 0; word(1488) = 5;
            word(1489) = 2; word(1490) = NONE; make() = 1490""");
    }

    private static void wordsOfRooms() {
        stories.tell("49: of each ROOM to which its eight EXITS lead: TOLD, ASSUMED, by a DOOR, to nothing, none", """
            world ROOM THING ROOM DOOR; exit(0, 0, 2) = 0; door(3, 0, 2, 2) = 1; exit(0, 4, NONE) = 2;
            exit(0, 7, 0) = 3; make() = 30; word(14) = 2; word(15) = NONE; word(16) = 2; word(17) = NONE;
            word(18) = NONE; word(19) = NONE; word(20) = 0; word(21) = 0; word(22) = NONE; word(23) = 0;
            word(24) = NONE; word(25) = 0; word(26|27|28|29) = NONE; word(30) = NONE; open(3, true) = 0;
            make() = 30; word(16) = 2""");
    }

    private static void wordsOfCouples() {
        stories.tell("49: of each RELATION its FORM, and how many couples a, b there are of which a has b", """
            world ROOM ROOM ROOM ROOM; relation(5|4|3|2|1|0) = 0 ..; make() = 58; word(46) = 5; word(47) = 0;
            word(48) = 4; word(49) = 0; word(56) = 0; word(57) = 0; relate(0, 0, 1) = 0; relate(0, 2, 3) = 1;
            relate(1, 0, 1) = 2; relate(2, 0, 1) = 3; relate(2, 1, 0) = 4; relate(3, 0, 1) = 5; relate(3, 2, 1) = 6;
            relate(4, 0, 1) = 7; relate(5, 0, 1) = 8; deny(2, 3, 2) = 9; make() = 58; word(47) = 4; word(49) = 2;
            word(51) = 2; word(53) = 2; word(55) = 1; word(57) = 1; relate(0, 3, 0) = 10; word(47) = 4; make() = 58;
            word(47) = 12""");
    }

    private static void wordsAsked() {
        stories.tell("50: NONE ahead of any, below 0, behind the last", """
            word(0|-1|MIN|MAX) = NONE; world ROOM; make() = 13; word(0) = 6; word(12) = NONE;
            word(13|-1|MIN|MAX) = NONE; relation(3); make() = 15; word(13) = 3; word(14) = 0; word(15) = NONE;
            fault() = 0""");
    }

    private static void digests() {
        long h = 17;
        long[] words = {6, 1, 1, -9, 3, -9, -9, -9, -9, -9, -9, -9, -9};
        for (long word : words) {
            h = 31 * h + word;
        }
        stories.tell("51: 17 at first; 31 h and each WORD, which wraps", "digest() = 17; thing(1, 3); digest() = 17;"
            + "make() = 13; digest() = " + h + "; thing(0, 0); digest() = " + h + "; clear() = 2; digest() = 17");
    }

    private static void sentences() {
        stories.tell("52: UNKNOWN, at both ends, ahead of OUTSIDE", """
            world ROOM THING; sentence(0|-1|MIN|MAX, 0) = UNKNOWN; put(1, 0) = 0;
            sentence(1|-1|299|300, 0) = UNKNOWN; sentence(1|-1, 3|-1) = UNKNOWN;
            sentence(0, -1|3|MIN|MAX) = OUTSIDE; sentence(0, 0) = 0; sentence(0, 1) = 1; sentence(0, 2) = 0""");
        stories.tell("52: of each sort its first two numbers", """
            world ROOM ROOM CARRIER THING DOOR; property(0, 4, 0); property(0, 5, 0); relation(3); relation(3);
            put(2, 1) = 0; bar(3, 1) = 1; give(3, 1, 77) = 2; among(3, {0 2}) = 3; pair(3, 2, true) = 4;
            most(1, 64) = 5; relate(1, 3, 4) = 6; deny(1, 4, 3) = 7; exit(1, 6, 0) = 8; door(4, 1, 2, 0) = 9;
            sentence(0, 0) = 0; sentence(0, 1) = 2; sentence(0, 2) = 1; sentence(1, 0) = 1; sentence(1, 1) = 3;
            sentence(1, 2) = 1; sentence(2, 0) = 2; sentence(2, 1) = 3; sentence(2, 2) = 1; sentence(3, 0) = 3;
            sentence(3, 1) = 3; sentence(3, 2) = 5; sentence(4, 0) = 4; sentence(4, 1) = 3; sentence(4, 2) = 2;
            sentence(5, 0) = 5; sentence(5, 1) = 1; sentence(5, 2) = 64; sentence(6, 0) = 6; sentence(6, 1) = 1;
            sentence(6, 2) = 3; sentence(7, 0) = 7; sentence(7, 1) = 1; sentence(7, 2) = 4; sentence(8, 0) = 8;
            sentence(8, 1) = 1; sentence(8, 2) = 6; sentence(9, 0) = 9; sentence(9, 1) = 4; sentence(9, 2) = 1;
            sentence(10, 0) = UNKNOWN""");
        stories.tell("52: of a long the lowest 32 bits", """
            63 x thing(4, 0) = 0 ..; thing(0, 0) = 63; among(63, {31}) = 0; among(62, {32}) = 1;
            among(61, {0 31 32 62}) = 2; among(60, {63}) = STATE; among(59, 4294967295) = 3; sentence(0, 2) = MIN;
            sentence(1, 2) = 0; sentence(2, 2) = -2147483647; sentence(3, 2) = -1""");
        stories.tell("52: of settle()'s the THING, the HOLDER", """
            world THING ROOM ROOM; bar(0, 1) = 0; among(0, {1 2}) = 1; settle() = 1; sentence(2, 0) = 0;
            sentence(2, 1) = 0; sentence(2, 2) = 2; sentence(3, 0) = UNKNOWN""");
        stories.tell("52: an among() tells the SET as it was told", """
            world THING ROOM ROOM; bar(0, 1) = 0; among(0, {1 2}) = 1; set(0) = {2}; sentence(1, 2) = 6""");
    }

    private static void threeHundredSentences() {
        stories.tell("Terms: 300 SENTENCES at most, of every sort, ahead of AGAINST", """
            world ROOM ROOM CARRIER THING DOOR; property(0, 4, 0); relation(0); put(3, 0) = 0; give(3, 0, 1) = 1;
            pair(2, 3, true) = 2; relate(0, 0, 1) = 3; exit(0, 0, 1) = 4; 295 x bar(2, 1); count(3) = 300;
            put(3, 1) = FULL; bar(3, 0) = FULL; give(3, 0, 2) = FULL; among(3, {1}) = FULL;
            pair(2, 3, false) = FULL; most(0, 0) = FULL; relate(0, 0, 2) = FULL; deny(0, 0, 1) = FULL;
            exit(0, 0, NONE) = FULL; door(4, 0, 0, 1) = FULL; settle() = 0; count(3) = 300; sentence(299, 0) = 1;
            sentence(300, 0) = UNKNOWN""");
        stories.tell("Terms: what are no SENTENCES are not FULL then", """
            world ROOM CARRIER; 300 x bar(1, 0); kind(0) = 6; property(0, 8, 0) = 0; usual(0, 0, 1) = 1;
            thing(0, 5) = 2; remark(1, 1, 9) = 1; open(1, true) = 0; relation(0) = 0; shelf(0, 3) = 0;
            stand(0, 2, 1) = 1; haul(0, 0, 0, 1, 2) = 2; table(1, 1, 4) = 0; fill(0, 0, 0, 3) = 1;
            rank(0, 0, true) = 0; blank(0, 0, 0) = 1; make() = 24; count(3) = 300; clear() = 3; count(3) = 0;
            world ROOM CARRIER; bar(1, 0) = 0""");
        stories.tell("Terms: what was told stays: there is none that takes a SENTENCE back", """
            world ROOM ROOM THING; put(2, 0) = 0; bar(2, 1) = 1; put(2, 1) = AGAINST 0; bar(2, 0) = AGAINST 0;
            place(2, 0) = 0; sentence(0, 0) = 0; sentence(1, 0) = 1; count(3) = 2""");
        stories.tell("Terms: refused calls take no number", """
            world ROOM ROOM THING; put(2, 0) = 0; put(2, 1) = AGAINST 0; put(3, 0) = UNKNOWN; put(0, 1) = STATE;
            bar(2, 1) = 1; bar(2, 0) = AGAINST 0; bar(2, 1) = 2; count(3) = 3""");
    }

    private static void againstTheFirstAndTheLast() {
        stories.tell("Terms: AGAINST: -100 less the number: 0 and 298", """
            world ROOM ROOM THING THING; put(2, 0) = 0; 297 x bar(3, 1); put(3, 0) = 298; put(2, 1) = -100;
            put(3, 1) = -398; bar(3, 0) = -398; bar(2, 0) = -100; bar(3, 1) = 299; put(3, 1) = FULL""");
    }

    private static void counts() {
        stories.tell("53: OUTSIDE, at both ends", "count(-1|10|MIN|MAX) = OUTSIDE; count(0) = 6; count(9) = 0");
        stories.tell("53: each of the ten, one more with each", """
            count(0) = 6; kind(0); count(0) = 7; property(0, 0, 0); count(1) = 1; world ROOM THING THING;
            count(2) = 3; among(1, {0}); count(3) = 1; count(7) = 1; relation(0); count(4) = 1; shelf(0, 0);
            count(5) = 1; table(1, 1, 0); count(6) = 1; pair(1, 2, true); count(9) = 1; count(3) = 2; count(8) = 0;
            put(1, 0); count(7) = 0; make() = 24; count(8) = 24; count(0) = 7; count(2) = 3""");
        stories.tell("53: as many as there may be", """
            18 x kind(0) = 6 ..; 12 x property(0, 0, 0) = 0 ..; thing(1, 0) = 0; 63 x thing(0, 0) = 1 ..;
            8 x relation(0) = 0 ..; 10 x shelf(0, 0) = 0 ..; 6 x table(1, 1, 0) = 0 ..;
            16 x pair(1, 2, true) = 0 ..; 284 x bar(1, 0) = 16 ..; count(0) = 24; count(1) = 12; count(2) = 64;
            count(3) = 300; count(4) = 8; count(5) = 10; count(6) = 6; count(9) = 16; kind(0) = FULL;
            property(0, 0, 0) = FULL; thing(0, 0) = FULL; relation(0) = FULL; shelf(0, 0) = FULL;
            table(1, 1, 0) = FULL; pair(1, 2, true) = FULL""");
    }

    private static void faults() {
        stories.tell("54: 0 ahead of any; refusals and what goes against are none", """
            fault() = 0; kind(9) = UNKNOWN; thing(0, -1) = OUTSIDE; make() = STATE; world ROOM THING;
            most(0, 0) = 0; put(1, 0) = AGAINST 0; among(1, {0}) = 1; settle() = NOWAY; place(1, 0) = NONE;
            fault() = 0""");
        stories.tell("54: each of the six, the latest", """
            world THING PERSON ROOM; property(0, 8, 1); shelf(0, 1); table(1, 1, 4); read(0, 0, 0) = NULL;
            fault() = 1; stands(0, 1) = INDEX; fault() = 2; open(0, true) = CAST; fault() = 3;
            give(0, 0, 0) = STORE; fault() = 4; shelf(0, -1) = SIZE; fault() = 5; mean(0, 0) = QUOTIENT;
            fault() = 6; follow(0, 0, 0) = NULL; fault() = 1; says(1, 4) = QUOTIENT; fault() = 6;
            kind(99) = UNKNOWN; fault() = 6; give(0, 0, 2) = 0; fault() = 6; clear() = 3; fault() = 0""");
        stories.tell("54: a FAULT that haul() comes to", """
            world THING; shelf(0, 1); shelf(1, 1); stand(0, 0, 0); haul(0, 0, 1, 0, 1) = STORE; fault() = 4;
            haul(0, 1, 1, 0, 1) = INDEX; fault() = 2""");
    }

    private static void clears() {
        stories.tell("55: how many THINGS there were", """
            clear() = 0; world ROOM; clear() = 1; clear() = 0; 64 x thing(0, 0) = 0 ..; clear() = 64;
            thing(0, 0) = 0; count(2) = 1""");
        stories.tell("55: KINDS, PROPERTIES with their numbers are new ones", """
            kind(1) = 6; kind(6) = 7; property(0, 8, 0) = 0; world THING THING; usual(0, 0, 1); give(1, 0, 1) = 0;
            clear() = 2; is(6, 0) = UNKNOWN; kind(4) = 6; is(6, 1) = 0; is(6, 4) = 1; property(0, 4, 0) = 0;
            world THING; value(0, 0) = 0; given(0, 0) = NONE; peek(0, 8, 0) = CAST; peek(0, 4, 0) = 0;
            usual(0, 0, 3); value(0, 0) = 3; give(0, 0, 5) = 0""");
        stories.tell("55: THINGS with their numbers are new ones", """
            thing(1, 1) = 0; thing(4, 2) = 1; thing(2, 3) = 2; put(1, 0) = 0; open(1|2, true) = 0;
            remark(1, 0|1, 9) = 2; clear() = 3; thing(1, 5) = 0; thing(4, 6) = 1; thing(2, 7) = 2;
            place(1, 0) = NONE; says(0, 2) = 0; mark(1, 0|1) = 6; says(1, 3) = 6; says(2, 3) = 70;
            open(1|2, false) = 0; put(1, 0) = 0""");
        stories.tell("55: the first THING too: what was open is not, what lay in it does not count", """
            thing(4, 1) = 0; thing(0, 1) = 1; thing(0, 1) = 2; open(0, true) = 0; put(1, 0) = 0; put(2, 0) = 1;
            clear() = 3; thing(4, 1) = 0; thing(0, 1) = 1; open(0, false) = 0; says(0, 2) = 0; most(0, 1) = 0;
            put(1, 0) = 1; place(1, 0) = 0; says(0, 2) = 1""");
        stories.tell("55: SETS, bars, PAIRS, MOSTS are gone", """
            world ROOM ROOM THING THING THING; among(2, {0}) = 0; bar(3, 0) = 1; pair(3, 4, false) = 2;
            most(0, 0) = 3; most(1, 0) = 4; clear() = 5; world ROOM ROOM THING THING THING; count(7) = 0;
            set(2) = 0; settle() = 0; count(9) = 0; put(2, 0) = 0; put(3, 0) = 1; put(4, 0) = 2; most(0, 3) = 3;
            among(3, {0 1}) = 4; set(3) = 3; most(1, 0) = 5""");
        stories.tell("55: RELATIONS are gone", """
            world THING THING THING; relation(5) = 0; relate(0, 0, 1) = 0; deny(0, 1, 2) = 1; clear() = 3;
            related(0, 0, 1) = UNKNOWN; world THING THING THING; relation(0) = 0; related(0, 0, 0|1) = 0;
            along(0, 0, 1) = NONE; relate(0, 1, 2) = 0; relate(0, 0, 1) = 1; relation(5) = 1; related(1, 0, 1) = 0;
            related(1, 1, 1) = 1""");
        stories.tell("55: EXITS are gone", """
            world ROOM ROOM DOOR; exit(0, 0, 1) = 0; door(2, 0, 2, 1) = 1; exit(0, 4, NONE) = 2; clear() = 3;
            world ROOM ROOM DOOR; sort(0|1, 0|1|2|3|4|5|6|7) = 0; leads(0|1, 0|1|2|3|4|5|6|7) = NONE;
            route(0, 1, true) = NONE; exit(0, 0, NONE) = 0; door(2, 0, 2, 1) = 1; exit(0, 4, 1) = 2;
            sort(1, 1) = 0""");
        stories.tell("55: SHELVES, TABLES, WORDS, came(), fault() are gone", """
            world ROOM; shelf(0, 3) = 0; stand(0, 1, 0); haul(0, 0, 0, 1, 2) = 2; table(2, 2, 44) = 0;
            fill(0, 1, 1, 5); make() = 13; open(0, true) = CAST; clear() = 1; came() = 0; fault() = 0;
            word(0) = NONE; digest() = 17; count(5|6|8) = 0; stands(0, 0) = UNKNOWN; read(0, 0, 0) = UNKNOWN;
            shelf(1, 3) = 0; stands(0, 0|1|2) = NONE; table(2, 2, 55) = 0; read(0, 1, 1) = NULL; total(0, 1) = 0;
            fill(0, 0, 0, LMIN); read(0, 0, 0) = LMIN""");
    }

    /** What was told ahead of clear() stood where the next sentence comes. */
    private static void sentencesOfBefore() {
        stories.tell("55: no put() of before counts for a MOST", """
            world ROOM THING THING; put(1, 0) = 0; put(2, 0) = 1; clear() = 3; world ROOM THING THING;
            put(1, 0) = 0; most(0, 1) = 1""");
        stories.tell("55: no deny() of before stands against a relate(), a deny()", """
            world ROOM THING; relation(3); bar(1, 0) = 0; deny(0, 0, 1) = 1; clear() = 2; world ROOM THING;
            relation(3); bar(1, 0) = 0; relate(0, 0, 1) = 1; clear() = 2; world ROOM THING; relation(3);
            bar(1, 0) = 0; deny(0, 0, 1) = 1; clear() = 2; world ROOM THING; relation(3); bar(1, 0) = 0;
            deny(0, 0, 1) = 1""");
        stories.tell("55: no relate() of before stands against one, nor against a deny()", """
            world ROOM THING THING; relation(0); bar(1, 0) = 0; relate(0, 0, 1) = 1; clear() = 3;
            world ROOM THING THING; relation(0); bar(1, 0) = 0; relate(0, 2, 1) = 1; clear() = 3;
            world ROOM THING THING; relation(0); bar(1, 0) = 0; deny(0, 2, 1) = 1""");
        stories.tell("55: no among(), give(), door() of before is named", """
            world ROOM ROOM THING DOOR; property(0, 4, 0); among(2, {0}) = 0; among(2, {0}) = 1; give(0, 0, 5) = 2;
            give(0, 0, 5) = 3; door(3, 0, 0, 1) = 4; clear() = 4; world ROOM ROOM THING DOOR; property(0, 4, 0);
            among(2, {0}) = 0; put(2, 1) = AGAINST 0; bar(2, 0) = AGAINST 0; bar(2, 1) = 1; give(0, 0, 5) = 2;
            given(0, 0) = 2; give(0, 0, 6) = AGAINST 2; bar(2, 1) = 3; door(3, 1, 4, 0) = 4; sentence(4, 0) = 9;
            sentence(5, 0) = UNKNOWN""");
    }

    private static void clearsOfTheFull() {
        stories.tell("55: what was full is not full then", """
            18 x kind(0) = 6 ..; 12 x property(0, 0, 0) = 0 ..; thing(1, 0) = 0; 20 x thing(0, 0) = 1 ..;
            8 x relation(5) = 0 ..; 10 x shelf(0, 0) = 0 ..; 6 x table(1, 1, 0) = 0 ..;
            16 x pair(1, 2, true) = 0 ..; 284 x bar(1, 0) = 16 ..; clear() = 21; kind(0) = 6; property(0, 0, 0) = 0;
            world ROOM THING THING; relation(0) = 0; shelf(0, 1) = 0; table(1, 1, 0) = 0; pair(1, 2, false) = 0;
            put(1, 0) = 1; put(2, 0) = AGAINST 0""");
        stories.tell("55: GROUPS, SETS of the last THING are gone", "64 x thing(4, 0) = 0 ..; relation(5) = 0;"
            + "relate(0, 63, 0) = 0; among(62, {63}) = 1; put(63, 61) = 2; open(63, true) = 0; clear() = 64;"
            + "64 x thing(4, 0) = 0 ..; relation(5) = 0; related(0, 63, 0) = 0; set(62) = 0; place(63, 0) = NONE;"
            + "open(63, false) = 0; settle() = 0; put(61, 63) = 0");
    }
}
