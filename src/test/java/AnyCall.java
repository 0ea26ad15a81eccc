import java.util.Arrays;

/** One call of any method, made from a fixed row of numbers; now and then with numbers that are far off. */
record AnyCall(String name, int[] n, long v, boolean truth) {
    /**
     * Each method with the sorts of its numbers: k a kind, p a property, l a lane, t a thing, m one that may lie
     * somewhere, h a holder, o a room, w a door, r a relation, f a form, d a direction, s a shelf, b a table,
     * 1 to 9 a number below 4 times that.
     */
    private static final String[] FACE = {
        "kind k", "is kk", "property klk", "usual kp", "thing k9", "put mh", "bar mh", "give tp", "value tp",
        "given tp", "peek pl9", "place t1", "says t1", "follow tp1", "mark t1", "remark t19", "open t", "among m",
        "pair mm", "most h1", "settle ", "set t", "relation f", "relate rtt", "deny rtt", "related rtt", "along rtt",
        "next rtt", "exit odo", "door wodo", "leads od", "sort od", "route oo", "first oo", "shelf k2",
        "stand s1t", "stands s1", "haul s1s11", "came ", "table 217", "fill b11", "blank b11", "read b11",
        "choose b11", "rank b1", "total b1", "mean b1", "make ", "word 9", "digest ", "sentence 91", "count 3",
        "fault ", "clear "};

    private static final int[] ODD = {-9, -1, -2, 64, 63, 8, 16, 24, 300, 1000, 1001, 77777, Integer.MIN_VALUE,
        Integer.MAX_VALUE};

    boolean is(String other) {
        return name.equals(other);
    }

    @Override
    public String toString() {
        return name + Arrays.toString(n) + " " + v + " " + truth;
    }

    long on(WorldMake w) {
        int a = n.length > 0 ? n[0] : 0;
        int b = n.length > 1 ? n[1] : 0;
        int c = n.length > 2 ? n[2] : 0;
        switch (name) {
            case "kind": return w.kind(a);
            case "is": return w.is(a, b);
            case "property": return w.property(a, b, c);
            case "usual": return w.usual(a, b, v);
            case "thing": return w.thing(a, b);
            case "put": return w.put(a, b);
            case "bar": return w.bar(a, b);
            case "give": return w.give(a, b, v);
            case "value": return w.value(a, b);
            case "given": return w.given(a, b);
            case "peek": return w.peek(a, b, c);
            case "place": return w.place(a, b);
            case "says": return w.says(a, b);
            case "follow": return w.follow(a, b, c);
            case "mark": return w.mark(a, b);
            case "remark": return w.remark(a, b, c);
            case "open": return w.open(a, truth);
            case "among": return w.among(a, v);
            case "pair": return w.pair(a, b, truth);
            case "most": return w.most(a, b);
            case "settle": return w.settle();
            case "set": return w.set(a);
            case "relation": return w.relation(a);
            case "relate": return w.relate(a, b, c);
            case "deny": return w.deny(a, b, c);
            case "related": return w.related(a, b, c);
            case "along": return w.along(a, b, c);
            case "next": return w.next(a, b, c);
            case "exit": return w.exit(a, b, truth || v % 3 != 0 ? c : WorldMake.NONE);
            case "door": return w.door(a, b, c, n[3]);
            case "leads": return w.leads(a, b);
            case "sort": return w.sort(a, b);
            case "route": return w.route(a, b, truth);
            case "first": return w.first(a, b, truth);
            default: return onTheRest(w, a, b, c);
        }
    }

    private long onTheRest(WorldMake w, int a, int b, int c) {
        switch (name) {
            case "shelf": return w.shelf(a, b);
            case "stand": return w.stand(a, b, c);
            case "stands": return w.stands(a, b);
            case "haul": return w.haul(a, b, c, n[3], n[4]);
            case "came": return w.came();
            case "table": return w.table(a, b, c);
            case "fill": return w.fill(a, b, c, v);
            case "blank": return w.blank(a, b, c);
            case "read": return w.read(a, b, c);
            case "choose": return w.choose(a, b, v % 3, c);
            case "rank": return w.rank(a, b, truth);
            case "total": return w.total(a, b);
            case "mean": return w.mean(a, b);
            case "make": return w.make();
            case "word": return w.word(a);
            case "digest": return w.digest();
            case "sentence": return w.sentence(a, b);
            case "count": return w.count(a);
            case "fault": return w.fault();
            case "clear": return w.clear();
            default: throw new IllegalStateException(name);
        }
    }

    /** Makes calls for one world, whose things' kinds it keeps. */
    static final class Maker {
        private long seed;
        private final int[] kinds = new int[64];
        /** The parts of the face that this world uses most. */
        private final int from;
        private final int many;

        Maker(long seed) {
            this.seed = seed * 1000003L + 17;
            this.from = below(FACE.length);
            this.many = 4 + below(12);
        }

        int below(int n) {
            seed = seed * 6364136223846793005L + 1442695040888963407L;
            return (int) Long.remainderUnsigned(seed >>> 20, n);
        }

        AnyCall firstThing(int i) {
            int[] row = {1, 1, 4, 0, 5, 2, 1, 4, 0, 3, 0, 4, 2, 5};
            return new AnyCall("thing", new int[] {row[i % row.length], 1 + i}, 0, false);
        }

        void heard(AnyCall call, long answer) {
            if (call.is("thing") && answer >= 0) {
                kinds[(int) answer] = call.n()[0];
            }
        }

        AnyCall next(WorldMake w) {
            String method = FACE[below(3) == 0 ? below(FACE.length) : (from + below(many)) % FACE.length];
            if (method.equals("clear ") && below(12) != 0) {
                method = "settle ";
            }
            if (method.equals("kind k") && below(4) != 0) {
                method = "relation f";
            }
            String[] parts = method.split(" ", 2);
            int[] n = new int[parts[1].length()];
            for (int i = 0; i < n.length; i++) {
                n[i] = below(25) == 0 ? ODD[below(ODD.length)] : number(w, parts[1].charAt(i));
            }
            return new AnyCall(parts[0], n, value(w, parts[0], n), below(2) == 0);
        }

        private int number(WorldMake w, char sort) {
            switch (sort) {
                case 'k': return below(w.count(0));
                case 'p': return below(Math.max(1, w.count(1)));
                case 'l': return below(9);
                case 'r': return below(Math.max(1, w.count(4)));
                case 'f': return below(6);
                case 'd': return below(8);
                case 's': return below(Math.max(1, w.count(5)));
                case 'b': return below(Math.max(1, w.count(6)));
                case 'o':
                case 'h':
                case 'm':
                case 'w':
                case 't': return thing(w, sort);
                default: return below(4 * (sort - '0'));
            }
        }

        private int thing(WorldMake w, char sort) {
            int found = 0;
            for (int tries = 0; tries < 20; tries++) {
                found = below(Math.max(1, w.count(2)));
                if (fits(w, kinds[found], sort)) {
                    return found;
                }
            }
            return found;
        }

        private static boolean fits(WorldMake w, int kind, char sort) {
            boolean room = w.is(kind, 1) == 1;
            switch (sort) {
                case 'o': return room;
                case 'h': return room || w.is(kind, 4) == 1;
                case 'w': return w.is(kind, 2) == 1;
                case 'm': return !room && w.is(kind, 2) == 0;
                default: return true;
            }
        }

        private long value(WorldMake w, String method, int[] n) {
            if (method.equals("among")) {
                long set = below(40) == 0 ? seed : 0;
                for (int k = 1 + below(3); k > 0; k--) {
                    set |= 1L << thing(w, 'h');
                }
                return n[0] >= 0 && n[0] < 64 ? set & ~(1L << n[0]) : set;
            }
            return below(4) == 0 ? seed : below(2) == 0 ? below(3) : thing(w, 't');
        }
    }
}
