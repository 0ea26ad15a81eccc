/** Makes any calls from a fixed row of numbers, most of them sensible, now and then with numbers that are far off. */
final class CallMaker {
    /**
     * Each method with the sorts of its numbers: k a kind, K one that many are of, p a property, l a lane, t a thing,
     * m one that may lie somewhere, h a holder, o a room, e a room or nothing, w a door, r a relation, f a form,
     * d a direction, s a shelf, b a table, i a place or a row, u how many of them, c a column, g lanes of columns,
     * v a value, z a small value, x a set, y a truth, n a size, S a sentence, W a word, 1 to 9 a number up to that.
     */
    private static final String[] FACE = {
        "kind k", "is kk", "property Klk", "usual kpv", "thing kn", "put mh", "bar mh", "give tpv", "value tp",
        "given tp", "peek pln", "place t6", "says t5", "follow tp5", "mark t2", "remark t2n", "open ty", "among mx",
        "pair mmy", "most h3", "settle ", "set t", "relation f", "relate rtt", "deny rtt", "related rtt", "along rtt",
        "next rtt", "exit ode", "door wodo", "leads od", "sort od", "route ooy", "first ooy", "shelf ku",
        "stand sit", "stands si", "haul sisii", "came ", "table ucg", "fill bicv", "blank bic", "read bic",
        "choose bczi", "rank bcy", "total bc", "mean bc", "make ", "word W", "digest ", "sentence S3", "count 9",
        "fault ", "clear "};

    /** The kinds of the things that a world begins with; the second one has rooms enough for its backdrops. */
    private static final int[][] BEGINNINGS = {
        {1, 1, 4, 0, 5, 2, 1, 4, 0, 3, 0, 4, 2, 5}, {1, 3, 1, 1, 0, 1, 1, 1, 2, 1, 4, 1, 3},
        {4, 1, 4, 0, 4, 5, 4, 4, 0, 5, 4}};

    private static final int[] ODD = {-9, -1, -2, 64, 63, 8, 16, 24, 300, 1000, 1001, 77777, Integer.MIN_VALUE,
        Integer.MAX_VALUE};

    private long seed;
    private final int[] kinds = new int[64];
    /** The parts of the face that this maker uses most. */
    private final int from;
    private final int many;

    CallMaker(long seed) {
        this.seed = seed * 1000003L + 17;
        this.from = below(FACE.length);
        this.many = 4 + below(12);
    }

    int below(int n) {
        seed = seed * 6364136223846793005L + 1442695040888963407L;
        return (int) Long.remainderUnsigned(seed >>> 20, n);
    }

    Call firstThing(int i) {
        int[] row = BEGINNINGS[many % BEGINNINGS.length];
        return new Call("thing", row[i % row.length], from % 4 == 0 ? 0 : 1 + i);
    }

    /** The maker keeps the kinds of all things, so that it can find a room where it wants one. */
    void heard(Call call, long answer) {
        if (call.is("thing") && answer >= 0) {
            kinds[(int) answer] = call.at(0);
        }
    }

    Call next(WorldMake w) {
        String method = FACE[below(3) == 0 ? below(FACE.length) : (from + below(many)) % FACE.length];
        if (method.equals("clear ") && below(12) != 0) {
            method = "settle ";
        }
        if (method.equals("kind k") && below(4) != 0) {
            method = "relation f";
        }
        String[] parts = method.split(" ", 2);
        long[] n = new long[parts[1].length()];
        for (int i = 0; i < n.length; i++) {
            char sort = parts[1].charAt(i);
            n[i] = "vzxy".indexOf(sort) < 0 && below(25) == 0 ? ODD[below(ODD.length)] : number(w, sort, n[0]);
        }
        return new Call(parts[0], n);
    }

    private long number(WorldMake w, char sort, long first) {
        switch (sort) {
            case 'k': return below(w.count(0));
            case 'K': return below(2) == 0 ? 0 : below(w.count(0));
            case 'p': return below(Math.max(1, w.count(1)));
            case 'l': return below(3) == 0 ? 8 : below(9);
            case 'r': return below(Math.max(1, w.count(4)));
            case 'f': return below(6);
            case 'd': return below(8);
            case 's': return below(Math.max(1, w.count(5)));
            case 'b': return below(Math.max(1, w.count(6)));
            case 'v': return below(4) == 0 ? seed : below(2) == 0 ? below(3) : thing(w, 't');
            case 'z': return below(5) - 2;
            case 'x': return holders(w, first);
            case 'y': return below(2);
            case 'i': return below(below(3) == 0 ? 18 : 4);
            case 'u': return below(4) == 0 ? below(18) : 5 + below(12);
            case 'c': return below(below(3) == 0 ? 7 : 3);
            case 'g': return lanes();
            case 'n': return below(below(2) == 0 ? 3 : 1002);
            case 'S': return below(w.count(3) + 1);
            case 'W': return below(w.count(8) + 1);
            case 'e': return below(6) == 0 ? WorldMake.NONE : thing(w, 'o');
            case 'o':
            case 'h':
            case 'm':
            case 'w':
            case 't': return thing(w, sort);
            default: return below(sort - '0' + 1);
        }
    }

    private int lanes() {
        int lanes = 0;
        for (int digits = below(below(3) == 0 ? 7 : 3); digits > 0; digits--) {
            lanes = 10 * lanes + below(below(12) == 0 ? 10 : 8);
        }
        return lanes;
    }

    private int thing(WorldMake w, char sort) {
        int found = 0;
        for (int tries = 0; tries < 20; tries++) {
            found = below(Math.max(1, w.count(2)));
            if (fits(w, kinds[found], sort)) {
                return found;
            }
        }
        return found;
    }

    private static boolean fits(WorldMake w, int kind, char sort) {
        boolean room = w.is(kind, 1) == 1;
        switch (sort) {
            case 'o': return room;
            case 'h': return room || w.is(kind, 4) == 1;
            case 'w': return w.is(kind, 2) == 1;
            case 'm': return !room && w.is(kind, 2) == 0;
            default: return true;
        }
    }

    private long holders(WorldMake w, long thing) {
        long set = below(40) == 0 ? seed : 0;
        for (int k = 1 + below(below(4) == 0 ? 12 : 3); k > 0; k--) {
            set |= 1L << thing(w, 'h');
        }
        return thing >= 0 && thing < 64 ? set & ~(1L << thing) : set;
    }
}
