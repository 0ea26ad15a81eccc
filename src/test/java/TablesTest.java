/** Promises 41 to 48: tables. */
public final class TablesTest {
    private static final int UNKNOWN = -1, OUTSIDE = -2, FULL = -4, NONE = -9;
    private static final Due due = new Due("TablesTest");

    public static void main(String[] args) {
        tablesComeInOrder();
        lanesByDigits();
        cells();
        cellsBeyond();
        chooses();
        ranksRisingAndFalling();
        ranksKeepOrder();
        ranksTruths();
        ranksWide();
        totalsAndMeans();
        tablesAreApart();
        due.end();
    }

    private static void tablesComeInOrder() {
        WorldMake w = new WorldMake();
        int[][] outside = {{0, 1, 0}, {17, 1, 0}, {-1, 1, 0}, {1, 0, 0}, {1, 6, 0}, {1, -1, 0}, {1, 1, 8}, {1, 1, 9},
            {1, 2, 80}, {1, 2, 18}, {1, 1, 10}, {1, 2, 100}, {1, 5, 100000}, {1, 1, -1}, {1, 2, -10}, {1, 5, -80000},
            {1, 5, Integer.MIN_VALUE}, {1, 5, Integer.MAX_VALUE}};
        for (int[] x : outside) {
            due.is("table(" + x[0] + ", " + x[1] + ", " + x[2] + ")", w.table(x[0], x[1], x[2]), OUTSIDE);
        }
        due.is("count(6)", w.count(6), 0);
        int[][] inside = {{1, 1, 0}, {16, 5, 77777}, {16, 5, 0}, {1, 1, 7}, {3, 2, 70}, {3, 3, 7}};
        for (int k = 0; k < 6; k++) {
            due.is("table number " + k, w.table(inside[k][0], inside[k][1], inside[k][2]), k);
        }
        due.is("table(1, 1, 1) when full", w.table(1, 1, 1), FULL);
        due.is("table(1, 1, 8) when full", w.table(1, 1, 8), OUTSIDE);
        due.is("count(6)", w.count(6), 6);
    }

    private static void lanesByDigits() {
        WorldMake w = new WorldMake();
        w.table(2, 5, 43210);
        w.table(1, 3, 765);
        long v = 0x7234_5678_9ABC_DEF2L;
        long[] wants = {1, (byte) v, (short) v, (char) v, (int) v, v, (long) (float) v, (long) (double) v};
        for (int lane = 0; lane < 8; lane++) {
            int table = lane / 5;
            due.is("fill in lane " + lane, w.fill(table, 0, lane % 5, v), 1);
            due.is("read in lane " + lane, w.read(table, 0, lane % 5), wants[lane]);
        }
        due.is("read of another row", w.read(0, 1, 0), Due.NULL);
    }

    private static void cells() {
        WorldMake w = new WorldMake();
        w.table(2, 2, 51);
        due.is("read at first", w.read(0, 0, 0), Due.NULL);
        due.is("fault()", w.fault(), 1);
        due.is("blank at first", w.blank(0, 0, 0), 0);
        due.is("fill(0, 0, 0, 300)", w.fill(0, 0, 0, 300), 1);
        due.is("read(0, 0, 0)", w.read(0, 0, 0), 44);
        due.is("fill anew", w.fill(0, 0, 0, 0), 1);
        due.is("read 0", w.read(0, 0, 0), 0);
        due.is("others stay blank", w.read(0, 0, 1), Due.NULL);
        due.is("others stay blank", w.read(0, 1, 0), Due.NULL);
        due.is("blank(0, 0, 0)", w.blank(0, 0, 0), 1);
        due.is("blank(0, 0, 0) again", w.blank(0, 0, 0), 0);
        due.is("read", w.read(0, 0, 0), Due.NULL);
        due.is("fill(0, 1, 1, -11)", w.fill(0, 1, 1, -11), 1);
        due.is("a value is no fault", w.read(0, 1, 1), -11);
    }

    private static void cellsBeyond() {
        WorldMake w = new WorldMake();
        w.table(2, 3, 0);
        for (int table : new int[] {-1, 1, 6}) {
            due.is("fill", w.fill(table, 9, 9, 0), UNKNOWN);
            due.is("blank", w.blank(table, 9, 9), UNKNOWN);
            due.is("read", w.read(table, 9, 9), UNKNOWN);
            due.is("choose", w.choose(table, 9, 0, 16), UNKNOWN);
            due.is("rank", w.rank(table, 9, false), UNKNOWN);
            due.is("total", w.total(table, 9), UNKNOWN);
            due.is("mean", w.mean(table, 9), UNKNOWN);
        }
        due.is("fault() so far", w.fault(), 0);
        int[][] beyond = {{-1, 0}, {2, 0}, {0, -1}, {0, 3}, {15, 2}, {16, 4}, {1, 4}};
        for (int[] x : beyond) {
            due.is("fill", w.fill(0, x[0], x[1], 0), Due.INDEX);
            due.is("blank", w.blank(0, x[0], x[1]), Due.INDEX);
            due.is("read", w.read(0, x[0], x[1]), Due.INDEX);
        }
        for (int column : new int[] {-1, 3, 4, 5}) {
            w.read(0, 0, 0);
            due.is("fault()", w.fault(), 1);
            due.is("choose", w.choose(0, column, 0, 0), Due.INDEX);
            due.is("fault()", w.fault(), 2);
            due.is("choose: outside ahead of index", w.choose(0, column, 0, 16), OUTSIDE);
            due.is("rank", w.rank(0, column, false), Due.INDEX);
            due.is("total", w.total(0, column), Due.INDEX);
            due.is("mean", w.mean(0, column), Due.INDEX);
        }
    }

    private static void chooses() {
        WorldMake w = new WorldMake();
        w.table(6, 2, 13);
        long[] values = {5, 65541, -1, 5, 0, 5};
        for (int row = 0; row < 6; row++) {
            w.fill(0, row, 0, values[row]);
        }
        w.blank(0, 3, 0);
        w.blank(0, 4, 0);
        due.is("choose 5 from 0", w.choose(0, 0, 5, 0), 0);
        due.is("choose 5 from 1: as it tells", w.choose(0, 0, 5, 1), 1);
        due.is("choose 5 from 2: not a blank one", w.choose(0, 0, 5, 2), 5);
        due.is("choose 65541", w.choose(0, 0, 65541, 0), NONE);
        due.is("choose -1", w.choose(0, 0, -1, 0), NONE);
        due.is("choose 65535", w.choose(0, 0, 65535, 0), 2);
        due.is("choose 0: blank", w.choose(0, 0, 0, 0), NONE);
        due.is("choose from 5", w.choose(0, 0, 5, 5), 5);
        due.is("choose from 6", w.choose(0, 0, 5, 6), NONE);
        due.is("choose from 15", w.choose(0, 0, 5, 15), NONE);
        due.is("choose from 16", w.choose(0, 0, 5, 16), OUTSIDE);
        due.is("choose from -1", w.choose(0, 0, 5, -1), OUTSIDE);
        due.is("choose in another column", w.choose(0, 1, 5, 0), NONE);
        w.table(16, 1, 0);
        w.fill(1, 15, 0, 8);
        due.is("choose a truth", w.choose(1, 0, 1, 0), 15);
        due.is("choose 8", w.choose(1, 0, 8, 0), NONE);
    }

    /** A table whose column 0 has these values (NONE: blank) and whose column 1 has the rows' numbers. */
    private static WorldMake ranked(int lane, long... values) {
        WorldMake w = new WorldMake();
        w.table(values.length, 3, 40 + lane);
        for (int row = 0; row < values.length; row++) {
            if (values[row] != NONE) {
                w.fill(0, row, 0, values[row]);
            }
            w.fill(0, row, 1, row);
        }
        return w;
    }

    private static void rows(WorldMake w, int... wants) {
        for (int row = 0; row < wants.length; row++) {
            due.is("row " + row, w.read(0, row, 1), wants[row]);
        }
    }

    private static void ranksRisingAndFalling() {
        WorldMake w = ranked(5, 3, NONE, -4, 7, Long.MIN_VALUE, Long.MAX_VALUE);
        due.is("rank rising", w.rank(0, 0, false), 5);
        rows(w, 4, 2, 0, 3, 5, 1);
        due.is("rank rising again", w.rank(0, 0, false), 0);
        due.is("rank falling", w.rank(0, 0, true), 4);
        rows(w, 5, 3, 0, 2, 4, 1);
        due.is("blank goes along", w.read(0, 5, 0), Due.NULL);
        due.is("cells go along", w.read(0, 0, 0), Long.MAX_VALUE);
        due.is("the blank column", w.rank(0, 2, false), 0);
        due.is("back by another column", w.rank(0, 1, false), 5);
        rows(w, 0, 1, 2, 3, 4, 5);
        due.is("read(0, 1, 0)", w.read(0, 1, 0), Due.NULL);
        due.is("read(0, 2, 0)", w.read(0, 2, 0), -4);
    }

    private static void ranksKeepOrder() {
        WorldMake w = ranked(4, 2, NONE, 1, 2, NONE, 1);
        due.is("rank rising", w.rank(0, 0, false), 5);
        rows(w, 2, 5, 0, 3, 1, 4);
        WorldMake x = ranked(4, 2, NONE, 1, 2, NONE, 1);
        due.is("rank falling", x.rank(0, 0, true), 4);
        rows(x, 0, 3, 2, 5, 1, 4);
        WorldMake one = ranked(4, 9);
        due.is("rank of one row", one.rank(0, 0, true), 0);
        WorldMake same = ranked(1, 256, 0, 512);
        due.is("alike as bytes", same.rank(0, 0, true), 0);
        due.is("alike as bytes", same.rank(0, 0, false), 0);
    }

    private static void ranksTruths() {
        WorldMake w = ranked(0, 5, 0, NONE, -3, 0);
        due.is("rank rising: no first", w.rank(0, 0, false), 4);
        rows(w, 1, 4, 0, 3, 2);
        due.is("rank falling: no last", w.rank(0, 0, true), 4);
        rows(w, 0, 3, 1, 4, 2);
    }

    private static void ranksWide() {
        WorldMake w = new WorldMake();
        w.table(16, 5, 11111);
        for (int row = 0; row < 16; row++) {
            for (int column = 0; column < 5; column++) {
                w.fill(0, row, column, 16 * column + row - 40);
            }
        }
        due.is("rank falling", w.rank(0, 4, true), 16);
        for (int row = 0; row < 16; row++) {
            for (int column = 0; column < 5; column++) {
                due.is("read(0, " + row + ", " + column + ")", w.read(0, row, column), 16 * column + 15 - row - 40);
            }
        }
        long[] chars = {65535, 0, 32768};
        WorldMake x = ranked(3, chars);
        x.rank(0, 0, false);
        rows(x, 1, 2, 0);
        WorldMake bytes = ranked(1, 127, 128, 0);
        bytes.rank(0, 0, false);
        rows(bytes, 1, 2, 0);
        WorldMake floats = ranked(6, Long.MAX_VALUE, Long.MIN_VALUE, 16777217, 16777216);
        floats.rank(0, 0, true);
        rows(floats, 0, 2, 3, 1);
    }

    private static void totalsAndMeans() {
        WorldMake w = ranked(1, 100, NONE, 100, -3);
        due.is("total", w.total(0, 0), 197);
        due.is("mean", w.mean(0, 0), 65);
        w.blank(0, 2, 0);
        w.blank(0, 0, 0);
        due.is("total of one", w.total(0, 0), -3);
        w.fill(0, 0, 0, 0);
        due.is("mean cut toward 0", w.mean(0, 0), -1);
        due.is("total of blank ones", w.total(0, 2), 0);
        due.is("fault() so far", w.fault(), 0);
        due.is("mean of blank ones", w.mean(0, 2), Due.QUOTIENT);
        due.is("fault()", w.fault(), 6);
        WorldMake big = ranked(5, Long.MAX_VALUE, 1, Long.MAX_VALUE);
        due.is("total wraps", big.total(0, 0), Long.MAX_VALUE + 1 + Long.MAX_VALUE);
        big.blank(0, 2, 0);
        due.is("total wraps", big.total(0, 0), Long.MIN_VALUE);
        due.is("mean of what wrapped", big.mean(0, 0), Long.MIN_VALUE / 2);
        WorldMake truths = ranked(0, 5, 6, 0, NONE);
        due.is("total of truths", truths.total(0, 0), 2);
        due.is("mean of truths", truths.mean(0, 0), 0);
    }

    private static void tablesAreApart() {
        WorldMake w = new WorldMake();
        w.table(2, 1, 4);
        w.table(2, 1, 1);
        w.fill(0, 0, 0, 1000);
        due.is("read(1, 0, 0)", w.read(1, 0, 0), Due.NULL);
        w.fill(1, 0, 0, 1000);
        due.is("read(1, 0, 0)", w.read(1, 0, 0), -24);
        due.is("read(0, 0, 0)", w.read(0, 0, 0), 1000);
        w.blank(1, 0, 0);
        due.is("total(0, 0)", w.total(0, 0), 1000);
    }
}
