/** The edges of promises 36 to 40, and of what the terms say of shelves. */
public final class ShelfEdgesTest {
    private static final Stories stories = new Stories("ShelfEdgesTest");

    public static void main(String[] args) {
        shelves();
        shelvesInOrder();
        standing();
        whatAShelfTakes();
        whatStands();
        haulsBeyond();
        haulsOfNone();
        haulsOverOneAnother();
        haulsThatAreNotTaken();
        cameOnes();
        stories.end();
    }

    private static void shelves() {
        stories.tell("36: UNKNOWN, at both ends", """
            shelf(-1|6|MIN|MAX, 0) = UNKNOWN; shelf(0|5, 0) = 0 ..; kind(0); shelf(6, 0) = 2;
            shelf(7, 0) = UNKNOWN""");
        stories.tell("36: OUTSIDE: n above 16; SIZE: below 0", """
            shelf(0, 17|MAX) = OUTSIDE; shelf(0, -1|MIN) = SIZE; fault() = 5; shelf(0, 0|16) = 0 ..;
            stands(0, 0) = INDEX; stands(1, 15) = NONE; stands(1, 16) = INDEX; count(5) = 2""");
        stories.tell("36: SHELVES 0 .. 9; FULL behind", """
            9 x shelf(0, 1) = 0 ..; shelf(4, 16) = 9; shelf(0, 0|16) = FULL; count(5) = 10; stands(9, 15) = NONE;
            stands(10, 0) = UNKNOWN; world CARRIER; stand(9, 15, 0) = 1; stands(9, 15) = 0;
            stand(10, 0, 0) = UNKNOWN; haul(9, 15, 8, 0, 1) = 1; haul(9, 0, 10, 0, 1) = UNKNOWN;
            haul(10, 0, 9, 0, 1) = UNKNOWN""");
    }

    private static void shelvesInOrder() {
        stories.tell("36: UNKNOWN ahead of OUTSIDE, of SIZE", """
            shelf(6, 17) = UNKNOWN; shelf(-1, -1) = UNKNOWN; fault() = 0""");
        stories.tell("36: OUTSIDE ahead of FULL ahead of SIZE", """
            10 x shelf(0, 1) = 0 ..; shelf(0, 17) = OUTSIDE; shelf(0, -1) = FULL; shelf(6, 1|17|-1) = UNKNOWN;
            fault() = 0; count(5) = 10""");
    }

    private static void standing() {
        stories.tell("37: UNKNOWN: the SHELF, the THING, at both ends, ahead of INDEX", """
            world THING; shelf(0, 2); stand(-1|1|10|MIN|MAX, 0, 0) = UNKNOWN;
            stand(0, 0, -1|1|64|-8|-10|MIN|MAX) = UNKNOWN; stand(1, 2, 0) = UNKNOWN; stand(0, 2, 1) = UNKNOWN;
            stand(0, 2, 0) = INDEX; fault() = 2""");
        stories.tell("37: INDEX, at both ends, ahead of STORE", """
            world THING ROOM; shelf(1, 2); stand(0, -1|2|16|MIN|MAX, 1|NONE) = INDEX; stand(0, 2|-1, 0) = INDEX;
            stand(0, 0|1, 0) = STORE; stand(0, 0|1, 1) = 1; stands(0, 0|1) = 1""");
        stories.tell("37: no place on a SHELF of none", "world THING; shelf(0, 0); stand(0, 0|-1, 0|NONE) = INDEX");
        stories.tell("37: NONE: nothing; one THING at many places; one in place of another", """
            world THING THING; shelf(0, 16); stand(0, 0|15, 1) = 1; stands(0, 0|15) = 1; stands(0, 1|14) = NONE;
            stand(0, 15, 0) = 1; stands(0, 15) = 0; stands(0, 0) = 1; stand(0, 0, NONE) = 1; stands(0, 0) = NONE;
            stand(0, 0, NONE) = 1; place(0|1, 0) = NONE; count(3) = 0""");
        stories.tell("37: STORE leaves what stands there", """
            world THING ROOM; shelf(1, 1); stand(0, 0, 1) = 1; stand(0, 0, 0) = STORE; fault() = 4;
            stands(0, 0) = 1""");
    }

    private static void whatAShelfTakes() {
        stories.tell("Terms 6: THINGS of a BASE, or that IS one", """
            world THING ROOM DOOR BACKDROP CARRIER PERSON; shelf(0|1|2|3|4|5, 1) = 0 ..;
            stand(0, 0, 0|1|2|3|4|5) = 1; stand(1, 0, 0|2|3|4|5) = STORE; stand(1, 0, 1) = 1;
            stand(2, 0, 0|1|3|4|5) = STORE; stand(2, 0, 2) = 1; stand(3, 0, 0|1|2|4|5) = STORE; stand(3, 0, 3) = 1;
            stand(4, 0, 0|1|2|3) = STORE; stand(4, 0, 4|5) = 1; stand(5, 0, 0|1|2|3|4) = STORE;
            stand(5, 0, 5) = 1""");
        stories.tell("36: of a KIND's BASE: not of the KIND itself", """
            kind(4); kind(4); kind(0); world CARRIER THING; thing(6, 0) = 2; thing(7, 0) = 3; thing(8, 0) = 4;
            shelf(6, 1); shelf(8, 1); stand(0, 0, 0|2|3) = 1; stand(0, 0, 1|4) = STORE;
            stand(1, 0, 0|1|2|3|4) = 1""");
    }

    private static void whatStands() {
        stories.tell("38: UNKNOWN ahead of INDEX; NONE", """
            shelf(0, 3); stands(-1|1|10|MIN|MAX, 0) = UNKNOWN; stands(1, 3) = UNKNOWN;
            stands(0, -1|3|16|MIN|MAX) = INDEX; fault() = 2; stands(0, 0|1|2) = NONE""");
    }

    private static void haulsBeyond() {
        stories.tell("39: UNKNOWN, either, at both ends, ahead of INDEX", """
            world THING; shelf(0, 2); haul(-1|1|10|MIN|MAX, 0, 0, 0, 1) = UNKNOWN;
            haul(0, 0, -1|1|10|MIN|MAX, 0, 1) = UNKNOWN; haul(1, 0, 0, 0, -1) = UNKNOWN;
            haul(0, 9, 1, 9, 9) = UNKNOWN; fault() = 0; came() = 0""");
        stories.tell("39: INDEX: one is beyond", """
            world THING THING; shelf(0, 16); shelf(0, 15); stand(0, 0, 0); stand(0, 15, 1);
            haul(0, 0, 1, 0, 16) = INDEX; haul(1, 0, 0, 0, 16) = INDEX; haul(0, 0, 0, 0, 17|MAX) = INDEX;
            haul(0, 2, 1, 0, 15) = INDEX; haul(0, 0, 1, 2, 14) = INDEX; haul(0, 16, 1, 0, 1) = INDEX;
            haul(0, 0, 1, 15, 1) = INDEX; haul(0, 1, 1, 0, 15) = 15; stands(1, 14) = 1; came() = 15""");
        stories.tell("39: INDEX: below 0, or n is", """
            world THING; shelf(0, 2); shelf(0, 2); stand(0, 0, 0); haul(0, -1|MIN, 1, 0, 1) = INDEX;
            haul(0, 0, 1, -1|MIN, 1) = INDEX; haul(0, 0, 1, 0, -1|MIN) = INDEX; haul(0, -1, 1, 0, 2) = INDEX;
            haul(0, 1, 1, 1, -1) = INDEX; stands(1, 0|1) = NONE; came() = 0""");
        stories.tell("39: INDEX: sums that would wrap", """
            shelf(0, 2); haul(0, MAX, 0, 0, 1|2|MAX) = INDEX; haul(0, 0, 0, MAX, 1|2|MAX) = INDEX;
            haul(0, 2, 0, 2, MAX) = INDEX; haul(0, 1, 0, 0, MAX) = INDEX; haul(0, MIN, 0, 0, MIN) = INDEX;
            haul(0, 0, 0, MIN, MIN) = INDEX; haul(0, MAX, 0, MAX, MIN) = INDEX; fault() = 2""");
        stories.tell("39: INDEX moves nothing, though the first ones were let", """
            world THING THING; shelf(0, 3); shelf(0, 2); stand(0, 0, 0); stand(0, 1, 1);
            haul(0, 0, 1, 0, 3) = INDEX; stands(1, 0|1) = NONE; haul(0, 0, 1, 1, 2) = INDEX;
            stands(1, 1) = NONE""");
    }

    private static void haulsOfNone() {
        stories.tell("39: n is 0", """
            world THING; shelf(0, 2); shelf(1, 0); stand(0, 0|1, 0) = 1; haul(0, 0, 0, 1, 0) = 0;
            haul(0, 0, 1, 0, 0) = 0; haul(1, 0, 0, 0, 0) = 0; haul(1, 0, 1, 0, 0) = 0; came() = 0;
            stands(0, 0|1) = 0; haul(0, -1, 0, 0, 0) = INDEX; haul(0, 0, 0, -1, 0) = INDEX""");
        stories.tell("39: a SHELF of none has none to give or take", """
            world THING; shelf(0, 0); shelf(0, 1); haul(0, 0, 1, 0, 1) = INDEX; haul(1, 0, 0, 0, 1) = INDEX;
            fault() = 2""");
    }

    private static void haulsOverOneAnother() {
        stories.tell("39: the same SHELF, each as it was ahead: up", """
            world THING THING THING; shelf(0, 5); stand(0, 0, 0); stand(0, 1, 1); stand(0, 2, 2);
            haul(0, 0, 0, 1, 4) = 4; stands(0, 0|1) = 0; stands(0, 2) = 1; stands(0, 3) = 2; stands(0, 4) = NONE;
            came() = 4""");
        stories.tell("39: the same SHELF, each as it was ahead: down", """
            world THING THING THING; shelf(0, 5); stand(0, 2, 0); stand(0, 3, 1); stand(0, 4, 2);
            haul(0, 1, 0, 0, 4) = 4; stands(0, 0) = NONE; stands(0, 1) = 0; stands(0, 2) = 1;
            stands(0, 3|4) = 2""");
        stories.tell("39: all of one to its own places; all of 16 to another", """
            world THING THING; shelf(0, 16); shelf(0, 16); stand(0, 0, 0); stand(0, 15, 1);
            haul(0, 0, 0, 0, 16) = 16; stands(0, 0) = 0; stands(0, 15) = 1; haul(0, 0, 1, 0, 16) = 16;
            stands(1, 0) = 0; stands(1, 15) = 1; stands(1, 7) = NONE; haul(0, 1, 0, 0, 15) = 15;
            haul(0, 0, 0, 1, 15) = 15; stands(0, 15) = 1; stands(0, 14) = NONE""");
        stories.tell("39: nothing comes in place of a THING, too", """
            world THING; shelf(0, 1); shelf(5, 1); haul(1, 0, 0, 0, 1) = 1; stand(0, 0, 0); haul(1, 0, 0, 0, 1) = 1;
            stands(0, 0) = NONE; haul(0, 0, 1, 0, 1) = 1""");
    }

    private static void haulsThatAreNotTaken() {
        stories.tell("39: STORE: those ahead of it came", """
            world CARRIER THING PERSON ROOM; shelf(0, 4); shelf(4, 4); stand(0, 0, 0); stand(0, 1, 2);
            stand(0, 2, 1); stand(0, 3, 2); stand(1, 0|1|2|3, 0) = 1; haul(0, 0, 1, 0, 4) = STORE; came() = 2;
            stands(1, 0) = 0; stands(1, 1) = 2; stands(1, 2|3) = 0; stands(0, 0) = 0; stands(0, 2) = 1""");
        stories.tell("39: STORE at the first, at the last; nothing is always taken", """
            world THING ROOM; shelf(0, 3); shelf(1, 3); stand(0, 0, 0); haul(0, 0, 1, 0, 3) = STORE; came() = 0;
            stand(0, 0, NONE); stand(0, 1, 1); stand(0, 2, 0); haul(0, 0, 1, 0, 3) = STORE; came() = 2;
            stands(1, 0) = NONE; stands(1, 1) = 1; stands(1, 2) = NONE; fault() = 4""");
        stories.tell("39: INDEX ahead of STORE", """
            world THING; shelf(0, 2); shelf(1, 2); stand(0, 0|1, 0) = 1; haul(0, 0, 1, 1, 2) = INDEX;
            haul(0, 0, 1, 0, 3) = INDEX; haul(0, 0, 1, 0, 2) = STORE""");
    }

    private static void cameOnes() {
        stories.tell("40: 0 ahead of any; the latest that was not refused, nor INDEX", """
            came() = 0; shelf(0, 4); came() = 0; haul(0, 0, 0, 1, 3) = 3; came() = 3; haul(1, 0, 0, 0, 1) = UNKNOWN;
            came() = 3; haul(0, 4, 0, 0, 1) = INDEX; came() = 3; haul(0, 0, 0, 0, 0) = 0; came() = 0;
            haul(0, 0, 0, 0, 4) = 4; came() = 4; clear() = 0; came() = 0""");
        stories.tell("40: that of a STORE", """
            world THING; shelf(0, 2); shelf(1, 2); stand(0, 1, 0); haul(0, 0, 0, 0, 2) = 2;
            haul(0, 0, 1, 0, 2) = STORE; came() = 1; haul(0, 1, 1, 0, 1) = STORE; came() = 0""");
    }
}
