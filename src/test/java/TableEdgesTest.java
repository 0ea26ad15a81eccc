/** The edges of promises 41 to 48, and of what the terms say of tables. */
public final class TableEdgesTest {
    private static final Stories stories = new Stories("TableEdgesTest");

    public static void main(String[] args) {
        tables();
        digits();
        whichCells("fill", ", 1");
        whichCells("blank", "");
        whichCells("read", "");
        fillsAndBlanks();
        reads();
        chooses();
        ranksThatAreRefused();
        ranks();
        ranksOfLanes();
        totals();
        means();
        stories.end();
    }

    private static void tables() {
        stories.tell("41: OUTSIDE: rows, 1 .. 16", """
            table(0|-1|17|MIN|MAX, 1, 0|4) = OUTSIDE; count(6) = 0; table(1|16, 1, 4) = 0 ..; fill(0, 0, 0, 7) = 1;
            fill(0, 1, 0, 7) = INDEX; fill(1, 15, 0, 7) = 1; fill(1, 16, 0, 7) = INDEX""");
        stories.tell("41: OUTSIDE: columns, 1 .. 5", """
            table(1, 0|-1|6|MIN|MAX, 0|4) = OUTSIDE; table(1, 1|5, 4) = 0 ..; fill(0, 0, 0, 7) = 1;
            fill(0, 0, 1, 7) = INDEX; fill(1, 0, 4, 7) = 1; fill(1, 0, 5, 7) = INDEX""");
        stories.tell("41: TABLES 0 .. 5; FULL behind; OUTSIDE ahead of FULL", """
            5 x table(1, 1, 4) = 0 ..; table(16, 5, 77777) = 5; table(1, 1, 4) = FULL; table(16, 5, 0) = FULL;
            table(0, 1, 4) = OUTSIDE; table(17, 1, 4) = OUTSIDE; table(1, 0|6, 4) = OUTSIDE;
            table(1, 1, 8|9|10|-1) = OUTSIDE; count(6) = 6; fill(5, 15, 4, 9) = 1; read(5, 15, 4) = 9;
            fill(6, 0, 0, 9) = UNKNOWN; read(6, 0, 0) = UNKNOWN""");
    }

    private static void digits() {
        stories.tell("41: OUTSIDE: a digit above 7", """
            table(1, 1, 8|9) = OUTSIDE; table(1, 2, 80|8|79|97) = OUTSIDE;
            table(1, 5, 80000|70800|77778|8) = OUTSIDE; table(1, 1, 7) = 0; table(1, 2, 77) = 1;
            table(1, 5, 77777) = 2""");
        stories.tell("41: OUTSIDE: more digits", """
            table(1, 1, 10|70|100) = OUTSIDE; table(1, 2, 100|777) = OUTSIDE; table(1, 4, 10000) = OUTSIDE;
            table(1, 5, 100000|777777|MAX) = OUTSIDE; table(1, 4, 7777) = 0; table(1, 5, 10000) = 1""");
        stories.tell("41: OUTSIDE: below 0 there are no digits", """
            table(1, 1, -1|-7|MIN) = OUTSIDE; table(1, 2, -10|-11|-77) = OUTSIDE;
            table(1, 5, -77777|-10000|MIN) = OUTSIDE; table(1, 1, 0) = 0""");
        stories.tell("41: that of column 0 the lowest; as many columns as told", """
            table(1, 3, 210) = 0; table(1, 5, 4) = 1; table(1, 5, 70000) = 2; fill(0, 0, 0|1|2, 511) = 1;
            read(0, 0, 0) = 1; read(0, 0, 1) = -1; read(0, 0, 2) = 511; fill(1, 0, 0|1|2|3|4, 511) = 1;
            read(1, 0, 0) = 511; read(1, 0, 1|2|3|4) = 1; fill(2, 0, 0|1|2|3|4, 511) = 1; read(2, 0, 0|1|2|3) = 1;
            read(2, 0, 4) = 511""");
    }

    private static void whichCells(String name, String more) {
        stories.tell("42 to 44: UNKNOWN ahead of INDEX: no such row, column: " + name, """
            table(3, 2, 44); X(-1|1|6|MIN|MAX, 0, 0Y) = UNKNOWN; X(1, 3, 2Y) = UNKNOWN;
            X(0, -1|3|16|MIN|MAX, 0Y) = INDEX; X(0, 0, -1|2|5|MIN|MAXY) = INDEX; X(0, 3, 2Y) = INDEX;
            X(0, -1, -1Y) = INDEX; fault() = 2; total(0, 0|1) = 0; fill(0, 2, 1, 5) = 1;
            read(0, 2, 1) = 5""".replace("X(", name + "(").replace("Y)", more + ")"));
    }

    private static void fillsAndBlanks() {
        stories.tell("42: a cell holds a VALUE, anew too; others are as they were", """
            table(2, 2, 54); fill(0, 1, 1, LMIN) = 1; read(0, 1, 1) = LMIN; fill(0, 1, 1, LMAX) = 1;
            read(0, 1, 1) = LMAX; read(0, 0, 0|1) = NULL; read(0, 1, 0) = NULL; fill(0, 1, 0, LMAX) = 1;
            read(0, 1, 0) = -1; read(0, 1, 1) = LMAX; count(3) = 0""");
        stories.tell("43: whether it was not BLANK", """
            table(1, 2, 0); blank(0, 0, 0) = 0; fill(0, 0, 0, 0) = 1; blank(0, 0, 1) = 0; read(0, 0, 0) = 0;
            blank(0, 0, 0) = 1; blank(0, 0, 0) = 0; read(0, 0, 0) = NULL; fill(0, 0, 0, 1) = 1;
            read(0, 0, 0) = 1""");
        stories.tell("Terms 6: each cell is BLANK at first, in all of the largest", """
            table(16, 5, 76543); read(0, 0|1|7|14|15, 0|1|2|3|4) = NULL; fill(0, 15, 4, 3) = 1; read(0, 15, 4) = 3;
            read(0, 14, 4) = NULL; read(0, 15, 3) = NULL; total(0, 3) = 0; total(0, 4) = 3""");
    }

    private static void reads() {
        stories.tell("44: INDEX ahead of NULL; what a cell tells may look like a FAULT", """
            table(1, 1, 5); read(0, 1, 0) = INDEX; read(0, 0, 0) = NULL; fault() = 1; fill(0, 0, 0, -12);
            read(0, 0, 0) = -12; fault() = 1; fill(0, 0, 0, -1); read(0, 0, 0) = -1""");
    }

    private static void chooses() {
        stories.tell("45: UNKNOWN ahead of OUTSIDE: from, ahead of INDEX: the column", """
            table(3, 2, 44); choose(-1|1|6|MIN|MAX, 0, 0, 0) = UNKNOWN; choose(1, 2, 0, 16) = UNKNOWN;
            choose(0, 0|2|-1, 0, -1|16|MIN|MAX) = OUTSIDE; choose(0, -1|2|5|MIN|MAX, 0, 0|15) = INDEX; fault() = 2;
            choose(0, 0|1, 0, 0|3|15) = NONE""");
        stories.tell("45: from 0 .. 15, also behind the last row", """
            table(3, 1, 4); fill(0, 0|2, 0, 5) = 1; choose(0, 0, 5, 0) = 0; choose(0, 0, 5, 1|2) = 2;
            choose(0, 0, 5, 3|4|15) = NONE; table(16, 1, 4); fill(1, 15, 0, 5) = 1; choose(1, 0, 5, 0|14|15) = 15;
            choose(1, 0, 5, 16) = OUTSIDE""");
        stories.tell("45: is not BLANK", """
            table(3, 1, 4); choose(0, 0, 0, 0) = NONE; fill(0, 1, 0, 0) = 1; choose(0, 0, 0, 0) = 1;
            blank(0, 1, 0) = 1; choose(0, 0, 0, 0) = NONE; fill(0, 2, 0, 7) = 1; blank(0, 2, 0) = 1;
            choose(0, 0, 7, 0) = NONE""");
        stories.tell("45: and tells v, all of the long", """
            table(1, 5, 54310); fill(0, 0, 0|1|2|3|4, 511) = 1; choose(0, 0, 1, 0) = 0; choose(0, 0, 511, 0) = NONE;
            choose(0, 1, -1, 0) = 0; choose(0, 1, 511|255, 0) = NONE; choose(0, 2, 511, 0) = 0;
            choose(0, 2, 66047, 0) = NONE; choose(0, 3, 511, 0) = 0; choose(0, 3, 4294967807, 0) = NONE;
            choose(0, 4, 511, 0) = 0; fill(0, 0, 4, LMIN); choose(0, 4, LMIN, 0) = 0;
            choose(0, 4, 0, 0) = NONE""");
    }

    private static void ranksThatAreRefused() {
        stories.tell("46: UNKNOWN ahead of INDEX: the column", """
            table(2, 2, 44); fill(0, 0, 0, 2); fill(0, 1, 0, 1); rank(-1|1|6|MIN|MAX, 0, true) = UNKNOWN;
            rank(1, 2, false) = UNKNOWN; rank(0, -1|2|5|MIN|MAX, false|true) = INDEX; fault() = 2;
            read(0, 0, 0) = 2; rank(0, 1, false) = 0; read(0, 0, 0) = 2; rank(0, 0, false) = 2;
            read(0, 0, 0) = 1""");
    }

    private static void ranks() {
        stories.tell("46: one row; all BLANK; all alike", """
            table(1, 1, 4); rank(0, 0, true|false) = 0; fill(0, 0, 0, 4); rank(0, 0, true|false) = 0;
            read(0, 0, 0) = 4; table(3, 2, 44); fill(1, 0|1|2, 0, 5) = 1; fill(1, 0, 1, 3); fill(1, 2, 1, 1);
            rank(1, 0, true|false) = 0; read(1, 0, 1) = 3; read(1, 1, 1) = NULL; read(1, 2, 1) = 1""");
        stories.tell("46: rising: BLANK ones last, as they were where they are alike", """
            table(6, 2, 44); fill(0, 1, 0, 2); fill(0, 2, 0, 1); fill(0, 4, 0, 2); fill(0, 5, 0, 1);
            fill(0, 0, 1, 0); fill(0, 1, 1, 1); fill(0, 2, 1, 2); fill(0, 3, 1, 3); fill(0, 4, 1, 4);
            fill(0, 5, 1, 5); rank(0, 0, false) = 6; read(0, 0, 1) = 2; read(0, 1, 1) = 5; read(0, 2, 1) = 1;
            read(0, 3, 1) = 4; read(0, 4, 1) = 0; read(0, 5, 1) = 3; read(0, 0|1, 0) = 1; read(0, 2|3, 0) = 2;
            read(0, 4|5, 0) = NULL; rank(0, 0, false) = 0""");
        stories.tell("46: falling: BLANK ones last, as they were where they are alike", """
            table(6, 2, 44); fill(0, 1, 0, 2); fill(0, 2, 0, 1); fill(0, 4, 0, 2); fill(0, 5, 0, 1);
            fill(0, 0, 1, 0); fill(0, 1, 1, 1); fill(0, 2, 1, 2); fill(0, 3, 1, 3); fill(0, 4, 1, 4);
            fill(0, 5, 1, 5); rank(0, 0, true) = 5; read(0, 0, 1) = 1; read(0, 1, 1) = 4; read(0, 2, 1) = 2;
            read(0, 3, 1) = 5; read(0, 4, 1) = 0; read(0, 5, 1) = 3; rank(0, 0, true) = 0""");
        stories.tell("46: how many rows stand elsewhere: rows, not cells that are otherwise", """
            table(3, 1, 4); fill(0, 0, 0, 2); fill(0, 1, 0, 1); fill(0, 2, 0, 3); rank(0, 0, false) = 2;
            rank(0, 0, true) = 2; rank(0, 0, true) = 0; blank(0, 0, 0) = 1; rank(0, 0, true) = 3;
            read(0, 2, 0) = NULL""");
        stories.tell("46: all of 16 rows, with all their columns, BLANK cells too", "table(16, 5, 44444);"
            + Stories.each(0, 15, k -> "fill(0, " + k + ", 0, " + (15 - k) + "); fill(0, " + k + ", 4, " + k + ")")
            + "rank(0, 0, false) = 16;" + Stories.each(0, 15, k -> "read(0, " + k + ", 4) = " + (15 - k))
            + "read(0, 3, 1) = NULL; rank(0, 4, true) = 0; rank(0, 4, false) = 16; read(0, 0, 0) = 15");
        stories.tell("46: another TABLE is as it was", """
            table(2, 1, 4); table(2, 1, 4); fill(0|1, 0, 0, 2) = 1; fill(0|1, 1, 0, 1) = 1; rank(1, 0, false) = 2;
            read(0, 0, 0) = 2; read(1, 0, 0) = 1""");
    }

    private static void ranksOfLanes() {
        stories.tell("46: truths: no first", """
            table(3, 2, 40); fill(0, 0, 0, 7); fill(0, 1, 0, 0); fill(0, 2, 0, -7); fill(0, 0, 1, 0);
            fill(0, 1, 1, 1); fill(0, 2, 1, 2); rank(0, 0, false) = 2; read(0, 0, 1) = 1; read(0, 1, 1) = 0;
            read(0, 2, 1) = 2; rank(0, 0, false) = 0""");
        stories.tell("46: numbers as they are in their LANE: bytes, chars, ints", """
            table(2, 3, 431); fill(0, 0, 0, 127); fill(0, 1, 0, 128); fill(0, 0, 1, 65535); fill(0, 1, 1, 32767);
            fill(0, 0, 2, 2147483647); fill(0, 1, 2, 2147483648); rank(0, 0, true) = 0; rank(0, 1, true) = 0;
            rank(0, 2, true) = 0; rank(0, 0, false) = 2; rank(0, 1, false) = 0; rank(0, 2, false) = 0;
            read(0, 0, 0) = -128""");
        stories.tell("46: longs whose difference would wrap", """
            table(3, 1, 5); fill(0, 0, 0, LMAX); fill(0, 1, 0, LMIN); fill(0, 2, 0, 0); rank(0, 0, false) = 3;
            read(0, 0, 0) = LMIN; read(0, 1, 0) = 0; read(0, 2, 0) = LMAX; rank(0, 0, true) = 2;
            read(0, 0, 0) = LMAX""");
        stories.tell("46: floats, doubles that are alike as such stay as they were", """
            table(2, 3, 476); fill(0, 0, 0, 16777217); fill(0, 1, 0, 16777216); fill(0, 0, 1, 9007199254740993);
            fill(0, 1, 1, 9007199254740992); fill(0, 0, 2, 1); rank(0, 0|1, true|false) = 0; read(0, 0, 2) = 1;
            fill(0, 0, 0, LMAX); fill(0, 1, 0, LMIN); rank(0, 0, false) = 2; read(0, 1, 0) = LMAX;
            read(0, 0, 2) = NULL""");
    }

    private static void totals() {
        stories.tell("47: UNKNOWN ahead of INDEX", """
            table(2, 2, 44); total(-1|1|6|MIN|MAX, 0) = UNKNOWN; total(1, 2) = UNKNOWN;
            total(0, -1|2|5|MIN|MAX) = INDEX; fault() = 2; total(0, 0|1) = 0""");
        stories.tell("47: longs, which wrap; BLANK ones 0", """
            table(4, 1, 5); total(0, 0) = 0; fill(0, 0, 0, LMAX); total(0, 0) = LMAX; fill(0, 3, 0, 1);
            total(0, 0) = LMIN; fill(0, 1, 0, LMIN); total(0, 0) = 0; blank(0, 3, 0); total(0, 0) = -1""");
        stories.tell("47: what the cells tell, not what came", """
            table(2, 5, 64310); fill(0, 0|1, 0|1|2|3|4, 16777217) = 1; total(0, 0) = 2; total(0, 1) = 2;
            total(0, 2) = 2; total(0, 3) = 33554434; total(0, 4) = 33554432; fill(0, 0|1, 4, LMAX) = 1;
            total(0, 4) = -2""");
        stories.tell("47: ints together are more than an int", """
            table(3, 1, 4); fill(0, 0|1|2, 0, 2147483647) = 1; total(0, 0) = 6442450941""");
    }

    private static void means() {
        stories.tell("48: UNKNOWN ahead of INDEX ahead of QUOTIENT", """
            table(2, 2, 44); mean(-1|1|6|MIN|MAX, 0) = UNKNOWN; mean(1, 2) = UNKNOWN;
            mean(0, -1|2|5|MIN|MAX) = INDEX; mean(0, 0|1) = QUOTIENT; fault() = 6; fill(0, 0, 0, 0); mean(0, 0) = 0;
            mean(0, 1) = QUOTIENT""");
        stories.tell("48: by how many are not BLANK, cut toward 0", """
            table(4, 1, 4); fill(0, 0, 0, 7); mean(0, 0) = 7; fill(0, 3, 0, 0); mean(0, 0) = 3; fill(0, 0, 0, -7);
            mean(0, 0) = -3; fill(0, 1, 0, 1); mean(0, 0) = -2; blank(0, 0|1|3, 0) = 1; mean(0, 0) = QUOTIENT""");
        stories.tell("48: what wrapped is divided as it is", """
            table(3, 1, 5); fill(0, 0, 0, LMAX); fill(0, 1, 0, 1); mean(0, 0) = -4611686018427387904;
            fill(0, 2, 0, LMIN); mean(0, 0) = 0; blank(0, 0|1, 0) = 1; mean(0, 0) = LMIN""");
    }
}
