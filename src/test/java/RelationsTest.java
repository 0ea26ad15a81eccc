/** Promises 24 to 29: relations. */
public final class RelationsTest {
    private static final int UNKNOWN = -1, OUTSIDE = -2, STATE = -3, FULL = -4, NONE = -9;
    private static final int ONE_TO_ONE = 0, ONE_TO_MANY = 1, MANY_TO_ONE = 2, ANY = 3, EACH_OTHER = 4, GROUPS = 5;
    private static final Due due = new Due("RelationsTest");

    public static void main(String[] args) {
        relationsComeInOrder();
        unknowns();
        for (int form = ONE_TO_ONE; form <= GROUPS; form++) {
            toItself(form);
            denials(form);
        }
        theRelateThatIsDenied();
        oneToOne();
        oneToMany();
        manyToOne();
        any();
        eachOther();
        groups();
        groupsMeet();
        relationsAreApart();
        along();
        leastNext();
        longWay();
        fullAtThreeHundred();
        due.end();
    }

    /** A world of n things with one relation. */
    private static WorldMake world(int n, int form) {
        WorldMake w = new WorldMake();
        for (int k = 0; k < n; k++) {
            w.thing(k % 6, 0);
        }
        w.relation(form);
        return w;
    }

    private static void relationsComeInOrder() {
        WorldMake w = new WorldMake();
        due.is("relation(-1)", w.relation(-1), OUTSIDE);
        due.is("relation(6)", w.relation(6), OUTSIDE);
        for (int k = 0; k < 8; k++) {
            due.is("relation number " + k, w.relation(k % 6), k);
        }
        due.is("relation(0) when full", w.relation(0), FULL);
        due.is("relation(6) when full", w.relation(6), OUTSIDE);
        due.is("count(4)", w.count(4), 8);
    }

    private static void unknowns() {
        WorldMake w = world(2, ANY);
        int[][] wrong = {{1, 0, 1}, {-1, 0, 1}, {0, 2, 1}, {0, -1, 1}, {0, 0, 2}, {0, 0, -9}, {1, 0, 0}};
        for (int[] x : wrong) {
            due.is("relate", w.relate(x[0], x[1], x[2]), UNKNOWN);
            due.is("deny", w.deny(x[0], x[1], x[2]), UNKNOWN);
            due.is("related", w.related(x[0], x[1], x[2]), UNKNOWN);
            due.is("along", w.along(x[0], x[1], x[2]), UNKNOWN);
            due.is("next", w.next(x[0], x[1], x[2]), UNKNOWN);
        }
        due.is("count(3)", w.count(3), 0);
    }

    private static void toItself(int form) {
        WorldMake w = world(3, form);
        due.is("relate(0, 1, 1)", w.relate(0, 1, 1), STATE);
        due.is("deny(0, 1, 1)", w.deny(0, 1, 1), STATE);
        due.is("related(0, 1, 1) of form " + form, w.related(0, 1, 1), form == GROUPS ? 1 : 0);
        due.is("along(0, 1, 1)", w.along(0, 1, 1), 0);
        due.is("next(0, 1, 1)", w.next(0, 1, 1), NONE);
        w.relate(0, 1, 2);
        due.is("related(0, 1, 1) then", w.related(0, 1, 1), form == GROUPS ? 1 : 0);
        due.is("along(0, 1, 1) then", w.along(0, 1, 1), 0);
        due.is("next(0, 1, 1) then", w.next(0, 1, 1), NONE);
    }

    private static void denials(int form) {
        boolean bothWays = form >= EACH_OTHER;
        WorldMake w = world(4, form);
        due.is("deny(0, 0, 1)", w.deny(0, 0, 1), 0);
        due.is("deny(0, 0, 1) again", w.deny(0, 0, 1), STATE);
        due.is("relate(0, 0, 1)", w.relate(0, 0, 1), Due.against(0));
        due.is("relate(0, 1, 0) of form " + form, w.relate(0, 1, 0), bothWays ? Due.against(0) : 1);
        due.is("deny(0, 1, 0) of form " + form, w.deny(0, 1, 0), bothWays ? 1 : Due.against(1));
        due.is("relate(0, 1, 0): the first", w.relate(0, 1, 0), bothWays ? Due.against(0) : STATE);
        due.is("related(0, 0, 1)", w.related(0, 0, 1), 0);
        due.is("related(0, 1, 0)", w.related(0, 1, 0), bothWays ? 0 : 1);
        due.is("relate(0, 2, 3)", w.relate(0, 2, 3), 2);
        due.is("relate(0, 2, 3) again", w.relate(0, 2, 3), STATE);
        due.is("deny(0, 2, 3)", w.deny(0, 2, 3), Due.against(2));
        due.is("deny(0, 3, 2) of form " + form, w.deny(0, 3, 2), bothWays ? Due.against(2) : 3);
        due.is("relate(0, 3, 2) of form " + form, w.relate(0, 3, 2), bothWays ? STATE : Due.against(3));
    }

    private static void theRelateThatIsDenied() {
        WorldMake w = world(5, ANY);
        w.relation(EACH_OTHER);
        due.is("relate(0, 0, 1)", w.relate(0, 0, 1), 0);
        due.is("relate(0, 0, 2)", w.relate(0, 0, 2), 1);
        due.is("relate(0, 3, 2)", w.relate(0, 3, 2), 2);
        due.is("deny(0, 0, 1): the very first", w.deny(0, 0, 1), Due.against(0));
        due.is("deny(0, 0, 2)", w.deny(0, 0, 2), Due.against(1));
        due.is("deny(0, 3, 2)", w.deny(0, 3, 2), Due.against(2));
        due.is("relate(1, 4, 0)", w.relate(1, 4, 0), 3);
        due.is("relate(1, 3, 2)", w.relate(1, 3, 2), 4);
        due.is("relate(1, 0, 1)", w.relate(1, 0, 1), 5);
        due.is("relate(1, 0, 2)", w.relate(1, 0, 2), 6);
        due.is("deny(1, 2, 0)", w.deny(1, 2, 0), Due.against(6));
        due.is("deny(1, 0, 1): of this relation", w.deny(1, 0, 1), Due.against(5));
        due.is("deny(1, 2, 3)", w.deny(1, 2, 3), Due.against(4));
    }

    private static void oneToOne() {
        WorldMake w = world(5, ONE_TO_ONE);
        due.is("relate(0, 0, 1)", w.relate(0, 0, 1), 0);
        due.is("relate(0, 2, 3)", w.relate(0, 2, 3), 1);
        due.is("relate(0, 1, 0): the other way", w.relate(0, 1, 0), 2);
        due.is("relate(0, 0, 4)", w.relate(0, 0, 4), Due.against(0));
        due.is("relate(0, 4, 3)", w.relate(0, 4, 3), Due.against(1));
        due.is("relate(0, 2, 1): a's ahead of b's", w.relate(0, 2, 1), Due.against(1));
        due.is("deny(0, 4, 3)", w.deny(0, 4, 3), 3);
        due.is("relate(0, 4, 3): the deny ahead", w.relate(0, 4, 3), Due.against(3));
        due.is("related(0, 4, 3)", w.related(0, 4, 3), 0);
        due.is("relate(0, 4, 2)", w.relate(0, 4, 2), 4);
    }

    private static void oneToMany() {
        WorldMake w = world(5, ONE_TO_MANY);
        due.is("relate(0, 0, 1)", w.relate(0, 0, 1), 0);
        due.is("relate(0, 0, 2): many", w.relate(0, 0, 2), 1);
        due.is("relate(0, 3, 2): one", w.relate(0, 3, 2), Due.against(1));
        due.is("relate(0, 3, 1): one", w.relate(0, 3, 1), Due.against(0));
        due.is("relate(0, 2, 0)", w.relate(0, 2, 0), 2);
        due.is("related(0, 0, 2)", w.related(0, 0, 2), 1);
    }

    private static void manyToOne() {
        WorldMake w = world(5, MANY_TO_ONE);
        due.is("relate(0, 1, 0)", w.relate(0, 1, 0), 0);
        due.is("relate(0, 2, 0): many", w.relate(0, 2, 0), 1);
        due.is("relate(0, 2, 3): one", w.relate(0, 2, 3), Due.against(1));
        due.is("relate(0, 0, 2)", w.relate(0, 0, 2), 2);
        due.is("related(0, 2, 3)", w.related(0, 2, 3), 0);
    }

    private static void any() {
        WorldMake w = world(4, ANY);
        int sentence = 0;
        for (int a = 0; a < 4; a++) {
            for (int b = 0; b < 4; b++) {
                due.is("relate(0, " + a + ", " + b + ")", w.relate(0, a, b), a == b ? STATE : sentence);
                sentence += a == b ? 0 : 1;
            }
        }
    }

    private static void eachOther() {
        WorldMake w = world(4, EACH_OTHER);
        due.is("relate(0, 2, 1)", w.relate(0, 2, 1), 0);
        due.is("related(0, 1, 2)", w.related(0, 1, 2), 1);
        due.is("related(0, 2, 1)", w.related(0, 2, 1), 1);
        due.is("relate(0, 1, 2)", w.relate(0, 1, 2), STATE);
        due.is("relate(0, 2, 3): as many as there are", w.relate(0, 2, 3), 1);
        due.is("related(0, 1, 3): not by another", w.related(0, 1, 3), 0);
        due.is("deny(0, 3, 1)", w.deny(0, 3, 1), 2);
        due.is("deny(0, 1, 3): the other way round", w.deny(0, 1, 3), 3);
        due.is("relate(0, 1, 3): the first", w.relate(0, 1, 3), Due.against(2));
        due.is("along(0, 1, 3)", w.along(0, 1, 3), 2);
        due.is("relate(0, 0, 2)", w.relate(0, 0, 2), 4);
        for (int other : new int[] {0, 1, 3}) {
            due.is("related(0, 2, " + other + ")", w.related(0, 2, other), 1);
            due.is("related(0, " + other + ", 2)", w.related(0, other, 2), 1);
        }
    }

    private static void groups() {
        WorldMake w = world(8, GROUPS);
        due.is("relate(0, 0, 1)", w.relate(0, 0, 1), 0);
        due.is("relate(0, 2, 3)", w.relate(0, 2, 3), 1);
        due.is("related(0, 1, 0)", w.related(0, 1, 0), 1);
        due.is("related(0, 1, 2)", w.related(0, 1, 2), 0);
        due.is("deny(0, 6, 7)", w.deny(0, 6, 7), 2);
        due.is("deny(0, 3, 1): one of b's with one of a's", w.deny(0, 3, 1), 3);
        due.is("deny(0, 0, 2)", w.deny(0, 0, 2), 4);
        due.is("relate(0, 0, 2): the first of them", w.relate(0, 0, 2), Due.against(3));
        due.is("relate(0, 2, 0): the first of them", w.relate(0, 2, 0), Due.against(3));
        due.is("relate(0, 4, 5)", w.relate(0, 4, 5), 5);
        due.is("relate(0, 5, 1)", w.relate(0, 5, 1), 6);
        due.is("relate(0, 4, 0): together already", w.relate(0, 4, 0), STATE);
        due.is("relate(0, 4, 2): by 1 and 3", w.relate(0, 4, 2), Due.against(3));
        due.is("related(0, 4, 0)", w.related(0, 4, 0), 1);
        due.is("along(0, 4, 0)", w.along(0, 4, 0), 1);
        due.is("next(0, 4, 0)", w.next(0, 4, 0), 0);
        due.is("along(0, 4, 3)", w.along(0, 4, 3), NONE);
        due.is("next(0, 4, 3)", w.next(0, 4, 3), NONE);
    }

    private static void groupsMeet() {
        WorldMake w = world(6, GROUPS);
        due.is("relate(0, 0, 1)", w.relate(0, 0, 1), 0);
        due.is("relate(0, 2, 3)", w.relate(0, 2, 3), 1);
        due.is("relate(0, 4, 5)", w.relate(0, 4, 5), 2);
        due.is("relate(0, 3, 4)", w.relate(0, 3, 4), 3);
        due.is("relate(0, 1, 5)", w.relate(0, 1, 5), 4);
        int[][] meetings = {{0, 1, 0}, {3, 2, 1}, {5, 4, 2}, {2, 5, 3}, {4, 2, 3}, {0, 2, 4}, {5, 1, 4}, {3, 0, 4}};
        for (int[] m : meetings) {
            due.is("deny(0, " + m[0] + ", " + m[1] + ")", w.deny(0, m[0], m[1]), Due.against(m[2]));
        }
    }

    private static void relationsAreApart() {
        WorldMake w = world(4, ONE_TO_ONE);
        w.relation(ONE_TO_ONE);
        w.relation(GROUPS);
        w.relation(GROUPS);
        due.is("relate(0, 0, 1)", w.relate(0, 0, 1), 0);
        due.is("relate(1, 0, 2)", w.relate(1, 0, 2), 1);
        due.is("relate(1, 3, 1)", w.relate(1, 3, 1), 2);
        due.is("relate(1, 0, 3): the relate of this one", w.relate(1, 0, 3), Due.against(1));
        due.is("deny(0, 2, 3)", w.deny(0, 2, 3), 3);
        due.is("deny(1, 2, 3)", w.deny(1, 2, 3), 4);
        due.is("relate(1, 2, 3)", w.relate(1, 2, 3), Due.against(4));
        due.is("relate(2, 0, 1)", w.relate(2, 0, 1), 5);
        due.is("relate(3, 0, 1)", w.relate(3, 0, 1), 6);
        due.is("deny(3, 0, 1)", w.deny(3, 0, 1), Due.against(6));
        due.is("related(3, 0, 2)", w.related(3, 0, 2), 0);
        due.is("deny(2, 2, 3)", w.deny(2, 2, 3), 7);
        due.is("relate(3, 2, 3)", w.relate(3, 2, 3), 8);
    }

    private static void along() {
        WorldMake w = world(6, ANY);
        w.relate(0, 0, 1);
        w.relate(0, 1, 2);
        w.relate(0, 2, 3);
        w.relate(0, 3, 0);
        w.relate(0, 5, 0);
        due.is("along(0, 0, 1)", w.along(0, 0, 1), 1);
        due.is("along(0, 0, 3)", w.along(0, 0, 3), 3);
        due.is("along(0, 3, 2)", w.along(0, 3, 2), 3);
        due.is("along(0, 5, 3)", w.along(0, 5, 3), 4);
        due.is("along(0, 0, 5): not backwards", w.along(0, 0, 5), NONE);
        due.is("next(0, 0, 5)", w.next(0, 0, 5), NONE);
        due.is("along(0, 4, 0)", w.along(0, 4, 0), NONE);
        due.is("next(0, 5, 3)", w.next(0, 5, 3), 0);
        due.is("next(0, 0, 3)", w.next(0, 0, 3), 1);
        due.is("next(0, 2, 3)", w.next(0, 2, 3), 3);
        w.relate(0, 0, 3);
        due.is("along(0, 0, 3): shorter", w.along(0, 0, 3), 1);
        due.is("next(0, 0, 3): shorter", w.next(0, 0, 3), 3);
    }

    private static void leastNext() {
        WorldMake w = world(8, ANY);
        int[][] couples = {{0, 5}, {5, 7}, {0, 3}, {3, 7}, {0, 1}, {1, 2}, {2, 7}, {0, 4}, {4, 7}};
        for (int[] c : couples) {
            w.relate(0, c[0], c[1]);
        }
        due.is("along(0, 0, 7)", w.along(0, 0, 7), 2);
        due.is("next(0, 0, 7): the least on a shortest way", w.next(0, 0, 7), 3);
    }

    private static void longWay() {
        WorldMake w = world(64, MANY_TO_ONE);
        for (int k = 0; k < 63; k++) {
            w.relate(0, k, k + 1);
        }
        due.is("along(0, 0, 63)", w.along(0, 0, 63), 63);
        due.is("next(0, 0, 63)", w.next(0, 0, 63), 1);
        due.is("along(0, 63, 0)", w.along(0, 63, 0), NONE);
        due.is("relate(0, 63, 0)", w.relate(0, 63, 0), 63);
        due.is("along(0, 63, 62)", w.along(0, 63, 62), 63);
        due.is("next(0, 63, 62)", w.next(0, 63, 62), 0);
    }

    private static void fullAtThreeHundred() {
        WorldMake w = world(4, ONE_TO_ONE);
        w.relate(0, 0, 1);
        w.deny(0, 0, 2);
        Due.tellUntil(w, 300, 0, 1);
        due.is("relate(0, 2, 3)", w.relate(0, 2, 3), FULL);
        due.is("relate(0, 0, 3): full ahead of against", w.relate(0, 0, 3), FULL);
        due.is("relate(0, 0, 1): state ahead of full", w.relate(0, 0, 1), STATE);
        due.is("deny(0, 2, 3)", w.deny(0, 2, 3), FULL);
        due.is("deny(0, 0, 1): full ahead of against", w.deny(0, 0, 1), FULL);
        due.is("deny(0, 0, 2): state ahead of full", w.deny(0, 0, 2), STATE);
        due.is("related(0, 2, 3)", w.related(0, 2, 3), 0);
    }
}
