/** The edges of promises 24 to 29, and of what the terms say of relations. */
public final class RelationEdgesTest {
    private static final Stories stories = new Stories("RelationEdgesTest");

    public static void main(String[] args) {
        relations();
        unknowns();
        relatesInOrder();
        relatesThatWereDenied();
        formsOfOne();
        groupsThatWereDenied();
        deniesInOrder();
        deniesThatGoAgainst();
        whetherTheyAre();
        stepsAlong();
        nextOnes();
        stories.end();
    }

    private static void relations() {
        stories.tell("24: OUTSIDE, at both ends", """
            relation(-1|6|MIN|MAX) = OUTSIDE; count(4) = 0; relation(0|5) = 0 ..""");
        stories.tell("24: RELATIONS 0 .. 7; FULL behind; OUTSIDE ahead of FULL", """
            relation(0|1|2|3|4|5|0) = 0 ..; relation(3) = 7; relation(0|5) = FULL; relation(6|-1) = OUTSIDE;
            count(4) = 8; world THING THING; relate(7, 0, 1) = 0; related(7, 0, 1) = 1; related(6, 0, 1) = 0;
            relate(8, 0, 1) = UNKNOWN; related(8, 0, 1) = UNKNOWN""");
    }

    private static void unknowns() {
        for (String call : new String[] {"relate", "deny", "related", "along", "next"}) {
            stories.tell("25 to 29: UNKNOWN, each of the three, at both ends: " + call, """
                world THING THING; relation(3); X(-1|1|8|MIN|MAX, 0, 1) = UNKNOWN;
                X(0, -1|2|64|NONE|MIN|MAX, 1) = UNKNOWN; X(0, 0, -1|2|64|NONE|MIN|MAX) = UNKNOWN;
                X(1, 0, 0) = UNKNOWN; X(0, 2, 2) = UNKNOWN; X(0, -1, -1) = UNKNOWN; count(3) = 0;
                relate(0, 0, 1) = 0""".replace("X(", call + "("));
        }
    }

    private static void relatesInOrder() {
        for (int form = 0; form < 6; form++) {
            stories.tell("25: STATE: a is b, or it is so already; form " + form, "world THING THING; relation(" + form
                + "); relate(0, 0, 0) = STATE; relate(0, 1, 1) = STATE; relate(0, 0, 1) = 0;"
                + "relate(0, 0, 1) = STATE; relate(0, 1, 1) = STATE; count(3) = 1");
        }
        stories.tell("25: STATE: it is so already: EACH OTHER, GROUPS the other way round, and by others", """
            world THING THING THING; relation(4); relation(5); relate(0, 0, 1) = 0; relate(0, 1, 0) = STATE;
            relate(1, 0, 1) = 1; relate(1, 1, 0) = STATE; relate(1, 2, 1) = 2; relate(1, 0, 2) = STATE;
            relate(1, 2, 0) = STATE; relate(0, 1, 2) = 3; relate(0, 0, 2) = 4""");
        stories.tell("25: STATE ahead of FULL ahead of AGAINST; UNKNOWN ahead of all", """
            world THING THING THING ROOM; relation(0); relate(0, 0, 1) = 0; deny(0, 1, 2) = 1; 298 x bar(0, 3);
            relate(0, 0, 1) = STATE; relate(0, 2, 2) = STATE; relate(0, 1, 2) = FULL; relate(0, 0, 2) = FULL;
            relate(0, 2, 1) = FULL; relate(0, 2, 3) = FULL; relate(0, 0, 4) = UNKNOWN; relate(1, 0, 1) = UNKNOWN;
            related(0, 2, 3) = 0""");
        stories.tell("25: the last SENTENCE there may be", """
            world THING THING ROOM; relation(5); 299 x bar(0, 2); relate(0, 0, 1) = 299; relate(0, 0, 2) = FULL;
            related(0, 1, 0) = 1; related(0, 0, 2) = 0; sentence(299, 0) = 6; sentence(300, 0) = UNKNOWN""");
    }

    private static void relatesThatWereDenied() {
        for (int form = 0; form < 4; form++) {
            stories.tell("25: AGAINST the deny() of it, this way round alone; form " + form, "world THING THING THING;"
                + "relation(" + form + "); deny(0, 1, 2) = 0; deny(0, 0, 1) = 1; relate(0, 0, 1) = AGAINST 1;"
                + "relate(0, 1, 2) = AGAINST 0; relate(0, 1, 0) = 2; related(0, 0, 1) = 0; related(0, 1, 0) = 1");
        }
        stories.tell("25: EACH OTHER: either way round, the first", """
            world THING THING THING; relation(4); deny(0, 0, 1) = 0; deny(0, 1, 0) = 1; deny(0, 2, 1) = 2;
            relate(0, 0, 1) = AGAINST 0; relate(0, 1, 0) = AGAINST 0; relate(0, 1, 2) = AGAINST 2;
            relate(0, 2, 1) = AGAINST 2; relate(0, 0, 2) = 3; related(0, 0, 1) = 0""");
        stories.tell("25: the deny() ahead of those of the FORM", """
            world THING THING THING THING; relation(0); relation(1); relation(2); relate(0, 0, 1) = 0;
            relate(1, 0, 1) = 1; relate(2, 0, 1) = 2; deny(0, 0, 2) = 3; deny(1, 2, 1) = 4; deny(2, 0, 2) = 5;
            relate(0, 0, 2) = AGAINST 3; relate(1, 2, 1) = AGAINST 4; relate(2, 0, 2) = AGAINST 5;
            relate(0, 0, 3) = AGAINST 0; relate(1, 3, 1) = AGAINST 1; relate(2, 0, 3) = AGAINST 2""");
        stories.tell("25: a deny() of another RELATION is none of this", """
            world THING THING; relation(3); relation(3); deny(0, 0, 1) = 0; relate(1, 0, 1) = 1;
            relate(0, 0, 1) = AGAINST 0""");
    }

    private static void formsOfOne() {
        stories.tell("25: FORM 0: that by which a has another, ahead of that by which another has b", """
            world THING THING THING THING THING; relation(0); relate(0, 2, 3) = 0; relate(0, 0, 1) = 1;
            relate(0, 0, 2) = AGAINST 1; relate(0, 4, 3) = AGAINST 0; relate(0, 0, 3) = AGAINST 1;
            relate(0, 2, 1) = AGAINST 0; relate(0, 1, 0) = 2; relate(0, 3, 4) = 3; related(0, 4, 3) = 0""");
        stories.tell("25: FORM 1: each b has one a at most; an a many", """
            world THING THING THING THING; relation(1); relate(0, 0, 1) = 0; relate(0, 0, 2) = 1;
            relate(0, 0, 3) = 2; relate(0, 1, 2) = AGAINST 1; relate(0, 2, 3) = AGAINST 2;
            relate(0, 3, 1) = AGAINST 0; relate(0, 1, 0) = 3""");
        stories.tell("25: FORM 2: each a has one b at most; a b many", """
            world THING THING THING THING; relation(2); relate(0, 1, 0) = 0; relate(0, 2, 0) = 1;
            relate(0, 3, 0) = 2; relate(0, 2, 1) = AGAINST 1; relate(0, 3, 2) = AGAINST 2;
            relate(0, 1, 3) = AGAINST 0; relate(0, 0, 1) = 3""");
        stories.tell("25: FORMS 3, 4: as many as there are, both ways", """
            world THING THING THING; relation(3); relation(4); relate(0, 0, 1|2) = 0 ..; relate(0, 1, 0|2) = 2 ..;
            relate(0, 2, 0|1) = 4 ..; relate(1, 0, 1|2) = 6 ..; relate(1, 1, 2) = 8; relate(1, 2, 1|0) = STATE""");
        stories.tell("25: FORM 0: the first and the last THING", """
            64 x thing(0, 0) = 0 ..; relation(0); relate(0, 0, 63) = 0; relate(0, 1, 63) = AGAINST 0;
            relate(0, 63, 0) = 1; relate(0, 63, 1) = AGAINST 1; related(0, 0, 63) = 1; related(0, 63, 0) = 1;
            related(0, 63, 63) = 0""");
    }

    private static void groupsThatWereDenied() {
        stories.tell("25: GROUPS: the first deny() of one of a's with one of b's, either way round", """
            world THING THING THING THING THING THING; relation(5); deny(0, 4, 5) = 0; deny(0, 3, 0) = 1;
            deny(0, 1, 2) = 2; relate(0, 0, 1) = 3; relate(0, 2, 3) = 4; relate(0, 0, 2) = AGAINST 1;
            relate(0, 3, 1) = AGAINST 1; relate(0, 1, 2) = AGAINST 1; relate(0, 4, 0) = 5;
            relate(0, 5, 1) = AGAINST 0; relate(0, 5, 2) = 6; relate(0, 3, 4) = AGAINST 0; related(0, 4, 5) = 0;
            related(0, 5, 3) = 1""");
        stories.tell("25: GROUPS: a deny() within another group is none of this", """
            world THING THING THING THING; relation(5); deny(0, 0, 1) = 0; relate(0, 2, 3) = 1; relate(0, 0, 2) = 2;
            relate(0, 1, 3) = AGAINST 0; relate(0, 1, 0) = AGAINST 0""");
        stories.tell("25: GROUPS: all of 64 together", "64 x thing(0, 0) = 0 ..; relation(5);"
            + Stories.each(1, 63, k -> "relate(0, " + (k - 1) + ", " + k + ") = " + (k - 1))
            + "related(0, 0, 63) = 1; related(0, 63, 0) = 1; relate(0, 63, 0) = STATE; deny(0, 63, 0) = AGAINST 62;"
            + "deny(0, 0, 1) = AGAINST 0; along(0, 0, 63) = 1; next(0, 0, 63) = 63");
    }

    private static void deniesInOrder() {
        stories.tell("26: STATE: a is b; it was denied (this way round) already", """
            world THING THING; relation(3); relation(4); relation(5); deny(0|1|2, 0, 0) = STATE; deny(0, 0, 1) = 0;
            deny(0, 0, 1) = STATE; deny(0, 1, 0) = 1; deny(1, 0, 1) = 2; deny(1, 0, 1) = STATE; deny(1, 1, 0) = 3;
            deny(1, 1, 0) = STATE; deny(2, 0, 1) = 4; deny(2, 0, 1) = STATE; deny(2, 1, 0) = 5; count(3) = 6""");
        stories.tell("26: STATE ahead of FULL ahead of AGAINST; UNKNOWN ahead of all", """
            world THING THING ROOM; relation(3); relate(0, 0, 1) = 0; deny(0, 1, 0) = 1; 298 x bar(0, 2);
            deny(0, 1, 0) = STATE; deny(0, 1, 1) = STATE; deny(0, 0, 1) = FULL; deny(0, 0, 2) = FULL;
            deny(0, 0, 3) = UNKNOWN; deny(1, 0, 1) = UNKNOWN""");
        stories.tell("26: the last SENTENCE there may be", """
            world THING ROOM; relation(3); 299 x bar(0, 1); deny(0, 0, 1) = 299; deny(0, 1, 0) = FULL;
            deny(0, 0, 1) = STATE""");
    }

    private static void deniesThatGoAgainst() {
        stories.tell("26: AGAINST the relate() by which a has b", """
            world THING THING THING; relation(3); relate(0, 0, 2) = 0; relate(0, 0, 1) = 1; relate(0, 2, 1) = 2;
            deny(0, 0, 1) = AGAINST 1; deny(0, 0, 2) = AGAINST 0; deny(0, 2, 1) = AGAINST 2; deny(0, 1, 0) = 3;
            deny(0, 1, 2) = 4; related(0, 0, 1) = 1""");
        stories.tell("26: EACH OTHER: also the one told the other way round", """
            world THING THING THING; relation(4); relate(0, 1, 0) = 0; relate(0, 1, 2) = 1;
            deny(0, 0, 1) = AGAINST 0; deny(0, 1, 0) = AGAINST 0; deny(0, 2, 1) = AGAINST 1; deny(0, 0, 2) = 2""");
        stories.tell("26: GROUPS: with which they came together", """
            world THING THING THING THING THING; relation(5); relation(5); relate(0, 0, 1) = 0; relate(1, 0, 2) = 1;
            relate(0, 2, 3) = 2; relate(0, 1, 2) = 3; deny(0, 0, 1) = AGAINST 0; deny(0, 3, 2) = AGAINST 2;
            deny(0, 0, 3) = AGAINST 3; deny(0, 3, 1) = AGAINST 3; deny(0, 2, 0) = AGAINST 3; deny(0, 4, 0) = 4;
            deny(1, 2, 0) = AGAINST 1; deny(1, 0, 1) = 5""");
        stories.tell("26: a deny() that went against denies nothing", """
            world THING THING; relation(5); relate(0, 0, 1) = 0; deny(0, 1, 0) = AGAINST 0;
            deny(0, 1, 0) = AGAINST 0; related(0, 0, 1) = 1; count(3) = 1""");
    }

    private static void whetherTheyAre() {
        stories.tell("27: 0 if a is b; GROUPS: 1", """
            world THING THING; relation(0|1|2|3|4|5) = 0 ..; related(0|1|2|3|4, 0, 0) = 0; related(5, 0, 0) = 1;
            related(5, 1, 1) = 1; related(0|1|2|3|4|5, 0, 1) = 0; related(0|1|2|3|4, 1, 1) = 0""");
        stories.tell("27: a has b, which is not b has a, but for EACH OTHER and GROUPS", """
            world THING THING; relation(0|1|2|3|4|5) = 0 ..; relate(0|1|2|3|4|5, 0, 1) = 0 ..;
            related(0|1|2|3|4|5, 0, 1) = 1; related(0|1|2|3, 1, 0) = 0; related(4|5, 1, 0) = 1;
            related(0|1|2|3|4, 0, 0) = 0; related(5, 0, 0) = 1""");
        stories.tell("27: THINGS that came behind the RELATION", """
            relation(5); relation(3); world THING THING; related(0, 1, 1) = 1; related(1, 1, 1) = 0;
            relate(0, 0, 1) = 0; related(0, 1, 0) = 1""");
    }

    private static void stepsAlong() {
        stories.tell("28: 0 if a is b, of each FORM", """
            world THING THING; relation(0|1|2|3|4|5) = 0 ..; along(0|1|2|3|4|5, 1, 1) = 0;
            along(0|1|2|3|4|5, 0, 1) = NONE; relate(3, 0, 1) = 0; relate(3, 1, 0) = 1; along(3, 0, 0) = 0;
            next(3, 0, 0) = NONE""");
        stories.tell("28: NONE against the way it was told", """
            world THING THING THING; relation(3); relate(0, 0, 1) = 0; relate(0, 1, 2) = 1; along(0, 0, 2) = 2;
            along(0, 2, 0) = NONE; along(0, 1, 0) = NONE; next(0, 2, 0) = NONE""");
        stories.tell("28: the shortest", """
            world THING THING THING THING; relation(3); relate(0, 0, 1) = 0; relate(0, 1, 2) = 1;
            relate(0, 2, 3) = 2; along(0, 0, 3) = 3; relate(0, 1, 3) = 3; along(0, 0, 3) = 2; next(0, 0, 3) = 1;
            relate(0, 0, 3) = 4; along(0, 0, 3) = 1; next(0, 0, 3) = 3""");
        stories.tell("28: 63 steps through all of 64, and round", "64 x thing(0, 0) = 0 ..; relation(0);"
            + Stories.each(1, 63, k -> "relate(0, " + (k - 1) + ", " + k + ") = " + (k - 1))
            + "along(0, 0, 63) = 63; along(0, 63, 0) = NONE; next(0, 0, 63) = 1; relate(0, 63, 0) = 63;"
            + "along(0, 63, 62) = 63; next(0, 63, 62) = 0; along(0, 62, 63) = 1; along(0, 63, 63) = 0");
        stories.tell("28: GROUPS: one step to each of its own", """
            world THING THING THING THING; relation(5); relate(0, 0, 1) = 0; relate(0, 1, 2) = 1;
            along(0, 0, 2) = 1; along(0, 2, 0) = 1; along(0, 0, 3) = NONE; along(0, 3, 3) = 0; next(0, 0, 2) = 2;
            next(0, 2, 0) = 0; next(0, 0, 3) = NONE; next(0, 0, 0) = NONE""");
        stories.tell("28: EACH OTHER: both ways", """
            world THING THING THING; relation(4); relate(0, 1, 0) = 0; relate(0, 1, 2) = 1; along(0, 0, 2) = 2;
            along(0, 2, 0) = 2; next(0, 0, 2) = 1; next(0, 2, 0) = 1""");
    }

    private static void nextOnes() {
        stories.tell("29: the least on a shortest WAY, not on a longer one", """
            6 x thing(0, 0) = 0 ..; relation(3); relate(0, 0, 4) = 0; relate(0, 4, 5) = 1; relate(0, 0, 3) = 2;
            relate(0, 3, 5) = 3; relate(0, 0, 1) = 4; relate(0, 1, 2) = 5; relate(0, 2, 5) = 6; next(0, 0, 5) = 3;
            along(0, 0, 5) = 2; relate(0, 0, 2) = 7; next(0, 0, 5) = 2""");
        stories.tell("29: NONE: there is none, or a is b", """
            world THING THING; relation(3); next(0, 0, 1) = NONE; next(0, 0, 0) = NONE; relate(0, 0, 1) = 0;
            next(0, 0, 1) = 1; next(0, 1, 0) = NONE; next(0, 1, 1) = NONE""");
    }
}
