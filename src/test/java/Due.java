/** Compares answers with those that are due, prints the wrong ones, and ends with exit code 1 if there were any. */
final class Due {
    static final int NULL = -11, INDEX = -12, CAST = -13, STORE = -14, SIZE = -15, QUOTIENT = -16;

    private static final int MOST_PRINTED = 40;

    private final String test;
    private int compared = 0;
    private int wrong = 0;

    Due(String test) {
        this.test = test;
    }

    /** What a call answers that goes against a sentence. */
    static int against(int sentence) {
        return -100 - sentence;
    }

    void is(String call, long got, long want) {
        compared++;
        if (got == want) {
            return;
        }
        wrong++;
        if (wrong <= MOST_PRINTED) {
            System.out.println(test + ": " + call + " answered " + got + ", due is " + want);
        }
    }

    void holds(String what, boolean truth) {
        is(what, truth ? 1 : 0, 1);
    }

    /** A world with these things, each of a kind and of size 1. */
    static WorldMake world(int... kinds) {
        WorldMake w = new WorldMake();
        for (int kind : kinds) {
            w.thing(kind, 1);
        }
        return w;
    }

    /** Tells bars of a thing until there are n sentences. */
    static void tellUntil(WorldMake w, int n, int thing, int where) {
        while (w.count(3) < n) {
            w.bar(thing, where);
        }
    }

    void end() {
        System.out.println(test + ": " + compared + " compared, " + wrong + " wrong");
        if (wrong != 0) {
            System.exit(1);
        }
    }
}
