/** Makes any calls from a fixed row of numbers, most of them sensible, now and then with numbers that are far off. */
final class CallMaker {
    /**
     * Each method with the sorts of its numbers: k a kind, p a property, l a lane, t a thing, m one that may lie
     * somewhere, h a holder, o a room, e a room or nothing, w a door, r a relation, f a form, d a direction, s a shelf,
     * b a table, v a value, z a small value, x a set, y a truth, 1 to 9 a number below 4 times that.
     */
    private static final String[] FACE = {
        "kind k", "is kk", "property klk", "usual kpv", "thing k9", "put mh", "bar mh", "give tpv", "value tp",
        "given tp", "peek pl9", "place t1", "says t1", "follow tp1", "mark t1", "remark t19", "open ty", "among mx",
        "pair mmy", "most h1", "settle ", "set t", "relation f", "relate rtt", "deny rtt", "related rtt", "along rtt",
        "next rtt", "exit ode", "door wodo", "leads od", "sort od", "route ooy", "first ooy", "shelf k2",
        "stand s1t", "stands s1", "haul s1s11", "came ", "table 217", "fill b11v", "blank b11", "read b11",
        "choose b1z1", "rank b1y", "total b1", "mean b1", "make ", "word 9", "digest ", "sentence 91", "count 3",
        "fault ", "clear "};

    private static final int[] ODD = {-9, -1, -2, 64, 63, 8, 16, 24, 300, 1000, 1001, 77777, Integer.MIN_VALUE,
        Integer.MAX_VALUE};

    private long seed;
    private final int[] kinds = new int[64];
    /** The parts of the face that this maker uses most. */
    private final int from;
    private final int many;

    CallMaker(long seed) {
        this.seed = seed * 1000003L + 17;
        this.from = below(FACE.length);
        this.many = 4 + below(12);
    }

    int below(int n) {
        seed = seed * 6364136223846793005L + 1442695040888963407L;
        return (int) Long.remainderUnsigned(seed >>> 20, n);
    }

    Call firstThing(int i) {
        int[] row = {1, 1, 4, 0, 5, 2, 1, 4, 0, 3, 0, 4, 2, 5};
        return new Call("thing", row[i % row.length], 1 + i);
    }

    /** The maker keeps the kinds of all things, so that it can find a room where it wants one. */
    void heard(Call call, long answer) {
        if (call.is("thing") && answer >= 0) {
            kinds[(int) answer] = call.at(0);
        }
    }

    Call next(WorldMake w) {
        String method = FACE[below(3) == 0 ? below(FACE.length) : (from + below(many)) % FACE.length];
        if (method.equals("clear ") && below(12) != 0) {
            method = "settle ";
        }
        if (method.equals("kind k") && below(4) != 0) {
            method = "relation f";
        }
        String[] parts = method.split(" ", 2);
        long[] n = new long[parts[1].length()];
        for (int i = 0; i < n.length; i++) {
            char sort = parts[1].charAt(i);
            n[i] = "vzxy".indexOf(sort) < 0 && below(25) == 0 ? ODD[below(ODD.length)] : number(w, sort, n[0]);
        }
        return new Call(parts[0], n);
    }

    private long number(WorldMake w, char sort, long first) {
        switch (sort) {
            case 'k': return below(w.count(0));
            case 'p': return below(Math.max(1, w.count(1)));
            case 'l': return below(9);
            case 'r': return below(Math.max(1, w.count(4)));
            case 'f': return below(6);
            case 'd': return below(8);
            case 's': return below(Math.max(1, w.count(5)));
            case 'b': return below(Math.max(1, w.count(6)));
            case 'v': return below(4) == 0 ? seed : below(2) == 0 ? below(3) : thing(w, 't');
            case 'z': return below(5) - 2;
            case 'x': return holders(w, first);
            case 'y': return below(2);
            case 'e': return below(6) == 0 ? WorldMake.NONE : thing(w, 'o');
            case 'o':
            case 'h':
            case 'm':
            case 'w':
            case 't': return thing(w, sort);
            default: return below(4 * (sort - '0'));
        }
    }

    private int thing(WorldMake w, char sort) {
        int found = 0;
        for (int tries = 0; tries < 20; tries++) {
            found = below(Math.max(1, w.count(2)));
            if (fits(w, kinds[found], sort)) {
                return found;
            }
        }
        return found;
    }

    private static boolean fits(WorldMake w, int kind, char sort) {
        boolean room = w.is(kind, 1) == 1;
        switch (sort) {
            case 'o': return room;
            case 'h': return room || w.is(kind, 4) == 1;
            case 'w': return w.is(kind, 2) == 1;
            case 'm': return !room && w.is(kind, 2) == 0;
            default: return true;
        }
    }

    private long holders(WorldMake w, long thing) {
        long set = below(40) == 0 ? seed : 0;
        for (int k = 1 + below(3); k > 0; k--) {
            set |= 1L << thing(w, 'h');
        }
        return thing >= 0 && thing < 64 ? set & ~(1L << thing) : set;
    }
}
