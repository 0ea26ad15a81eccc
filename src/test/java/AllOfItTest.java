/** Promises 49 to 55: the words, the sentences, the counts, the latest fault, clear. */
public final class AllOfItTest {
    private static final int UNKNOWN = -1, OUTSIDE = -2, STATE = -3, NONE = -9;
    private static final int THING = 0, ROOM = 1, DOOR = 2, BACKDROP = 3, CARRIER = 4, PERSON = 5;
    private static final Due due = new Due("AllOfItTest");

    public static void main(String[] args) {
        makeRefuses();
        wordsOfThings();
        wordsOfRelations();
        wordsStay();
        mostWords();
        sentences();
        counts();
        faults();
        clears();
        due.end();
    }

    private static void makeRefuses() {
        WorldMake w = Due.world(CARRIER, THING, DOOR, BACKDROP, PERSON);
        due.is("make() without a room", w.make(), STATE);
        due.is("count(8)", w.count(8), 0);
        int room = w.thing(ROOM, 2);
        due.is("make()", w.make(), 2 + 6 * 3 + 8);
        long digest = w.digest();
        w.among(1, 1L << room);
        due.is("make() with an unsettled one", w.make(), STATE);
        due.is("count(8) stays", w.count(8), 28);
        due.is("digest() stays", w.digest(), digest);
        w.settle();
        due.is("make() when settled", w.make(), 28);
        due.holds("digest() is another", w.digest() != digest);
    }

    private static void words(WorldMake w, long... wants) {
        due.is("make()", w.make(), wants.length);
        due.is("count(8)", w.count(8), wants.length);
        long h = 17;
        for (int i = 0; i < wants.length; i++) {
            due.is("word(" + i + ")", w.word(i), wants[i]);
            h = 31 * h + wants[i];
        }
        due.is("digest()", w.digest(), h);
        due.is("word(-1)", w.word(-1), NONE);
        due.is("word beyond", w.word(wants.length), NONE);
        due.is("word far beyond", w.word(Integer.MAX_VALUE), NONE);
    }

    private static void wordsOfThings() {
        WorldMake w = new WorldMake();
        int box = w.kind(CARRIER);
        int hall = w.thing(ROOM, 9);
        int cellar = w.thing(ROOM, 8);
        int chest = w.thing(box, 7);
        int sky = w.thing(BACKDROP, 6);
        int gate = w.thing(DOOR, 5);
        int weight = w.property(CARRIER, 5, 0);
        int owner = w.property(THING, 8, THING);
        w.put(chest, cellar);
        w.put(sky, cellar);
        w.put(sky, hall);
        w.usual(CARRIER, weight, 0x1_0000_0005L);
        w.give(hall, owner, chest);
        w.give(gate, owner, NONE);
        w.exit(hall, 0, cellar);
        w.exit(hall, 5, NONE);
        w.door(gate, cellar, 6, hall);
        words(w, 7, 5,
            ROOM, NONE, 9, chest,
            ROOM, NONE, 8, NONE,
            box, cellar, 7, 5, NONE,
            BACKDROP, cellar, 6, NONE,
            DOOR, NONE, 5, NONE,
            cellar, NONE, NONE, NONE, NONE, NONE, NONE, cellar,
            NONE, hall, NONE, NONE, NONE, NONE, hall, NONE);
        w.give(chest, weight, -1);
        due.is("the words stay", w.word(13), 5);
        due.is("make()", w.make(), 39);
        due.is("the lowest bits", w.word(13), -1);
    }

    private static void wordsOfRelations() {
        WorldMake w = Due.world(ROOM, THING, THING, THING);
        for (int form = 0; form < 6; form++) {
            w.relation(form);
        }
        w.relate(0, 0, 1);
        w.relate(1, 0, 1);
        w.relate(1, 0, 2);
        w.relate(3, 1, 2);
        w.relate(3, 2, 1);
        w.relate(3, 2, 3);
        w.deny(3, 3, 2);
        w.relate(4, 1, 2);
        w.relate(5, 1, 2);
        w.relate(5, 3, 2);
        due.is("make()", w.make(), 34);
        long[] wants = {0, 1, 1, 2, 2, 0, 3, 3, 4, 2, 5, 6};
        for (int i = 0; i < wants.length; i++) {
            due.is("word(" + (22 + i) + ")", w.word(22 + i), wants[i]);
        }
    }

    private static void wordsStay() {
        WorldMake w = Due.world(ROOM);
        w.make();
        due.is("word(1)", w.word(1), 1);
        w.thing(ROOM, 4);
        w.kind(2);
        due.is("word(1) stays", w.word(1), 1);
        due.is("count(8) stays", w.count(8), 13);
        due.is("make() anew", w.make(), 24);
        due.is("word(0) anew", w.word(0), 7);
        due.is("word(1) anew", w.word(1), 2);
    }

    private static void mostWords() {
        WorldMake w = new WorldMake();
        for (int k = 0; k < 64; k++) {
            w.thing(ROOM, 1);
        }
        for (int p = 0; p < 12; p++) {
            w.property(THING, 4, 0);
            w.usual(ROOM, p, p);
        }
        for (int r = 0; r < 8; r++) {
            w.relation(3);
        }
        w.relate(7, 3, 4);
        due.is("make() of the most", w.make(), 2 + 64 * 15 + 64 * 8 + 16);
        due.is("the last word", w.word(1489), 1);
        due.is("the last property", w.word(2 + 64 * 15 - 1), 11);
        due.is("no more", w.word(1490), NONE);
    }

    private static void sentences() {
        WorldMake w = Due.world(ROOM, ROOM, CARRIER, THING, DOOR);
        int p = w.property(THING, 5, 0);
        int r = w.relation(3);
        w.put(2, 1);
        w.bar(3, 1);
        w.give(3, p, 12);
        w.among(3, 5);
        w.pair(3, 2, false);
        w.most(1, 20);
        w.relate(r, 3, 4);
        w.deny(r, 4, 3);
        w.exit(1, 6, 0);
        w.door(4, 1, 2, 0);
        w.settle();
        int[][] wants = {{0, 2, 1}, {1, 3, 1}, {2, 3, p}, {3, 3, 5}, {4, 3, 2}, {5, 1, 20}, {6, r, 3}, {7, r, 4},
            {8, 1, 6}, {9, 4, 1}, {0, 3, 0}};
        for (int i = 0; i < wants.length; i++) {
            for (int what = 0; what < 3; what++) {
                due.is("sentence(" + i + ", " + what + ")", w.sentence(i, what), wants[i][what]);
            }
        }
        due.is("sentence(0, 3)", w.sentence(0, 3), OUTSIDE);
        due.is("sentence(0, -1)", w.sentence(0, -1), OUTSIDE);
        due.is("sentence(11, 0)", w.sentence(11, 0), UNKNOWN);
        due.is("sentence(11, 3)", w.sentence(11, 3), UNKNOWN);
        due.is("sentence(-1, 0)", w.sentence(-1, 0), UNKNOWN);
        due.is("sentence(300, 0)", w.sentence(300, 0), UNKNOWN);
    }

    /** A world that has something of everything, with one unsettled thing. */
    private static WorldMake everything() {
        WorldMake w = Due.world(ROOM, ROOM, CARRIER, THING, DOOR, BACKDROP, PERSON);
        w.kind(CARRIER);
        w.property(THING, 4, 0);
        w.property(THING, 8, THING);
        w.usual(THING, 0, 5);
        w.usual(THING, 1, 3);
        w.relation(5);
        w.relation(0);
        w.relation(3);
        w.shelf(THING, 4);
        w.table(3, 2, 44);
        w.make();
        w.put(3, 2);
        w.put(5, 0);
        w.bar(2, 1);
        w.give(3, 0, 6);
        w.among(6, 3);
        w.pair(3, 6, false);
        w.pair(2, 3, false);
        w.most(2, 1);
        w.relate(0, 1, 2);
        w.relate(1, 1, 2);
        w.deny(0, 3, 4);
        w.exit(0, 1, 1);
        w.door(4, 0, 2, 1);
        w.open(4, true);
        w.open(2, true);
        w.remark(2, 0, 8);
        w.remark(2, 1, 9);
        w.stand(0, 1, 3);
        w.haul(0, 0, 0, 1, 2);
        w.fill(0, 0, 0, 7);
        w.mean(0, 1);
        return w;
    }

    private static void counts() {
        WorldMake w = everything();
        int[] wants = {7, 2, 7, 13, 3, 1, 1, 1, 2 + 7 * 5 + 16 + 6, 2};
        for (int what = 0; what < wants.length; what++) {
            due.is("count(" + what + ")", w.count(what), wants[what]);
        }
        due.is("count(10)", w.count(10), OUTSIDE);
        due.is("count(-1)", w.count(-1), OUTSIDE);
        due.is("came()", w.came(), 2);
        due.is("fault()", w.fault(), 6);
    }

    private static void faults() {
        WorldMake w = Due.world(THING, ROOM, PERSON);
        w.property(THING, 8, ROOM);
        w.shelf(THING, 1);
        due.is("fault() ahead of any", w.fault(), 0);
        w.follow(0, 0, 0);
        due.is("fault() null", w.fault(), 1);
        w.stands(0, 1);
        due.is("fault() index", w.fault(), 2);
        w.open(0, true);
        due.is("fault() cast", w.fault(), 3);
        w.give(0, 0, 2);
        due.is("fault() store", w.fault(), 4);
        w.shelf(0, -1);
        due.is("fault() size", w.fault(), 5);
        w.says(2, 4);
        due.is("fault() quotient", w.fault(), 6);
        w.says(9, 4);
        w.says(2, 9);
        w.put(1, 1);
        w.give(0, 0, 1);
        due.is("fault() stays", w.fault(), 6);
    }

    private static void clears() {
        WorldMake w = everything();
        due.is("clear()", w.clear(), 7);
        int[] counts = {6, 0, 0, 0, 0, 0, 0, 0, 0, 0};
        for (int what = 0; what < counts.length; what++) {
            due.is("count(" + what + ") when cleared", w.count(what), counts[what]);
        }
        due.is("fault()", w.fault(), 0);
        due.is("came()", w.came(), 0);
        due.is("digest()", w.digest(), 17);
        due.is("word(0)", w.word(0), NONE);
        due.is("sentence(0, 0)", w.sentence(0, 0), UNKNOWN);
        due.is("is(6, 0)", w.is(6, 0), UNKNOWN);
        due.is("clear() again", w.clear(), 0);
        WorldMake x = Due.world(DOOR, DOOR);
        x.open(0, true);
        x.open(1, true);
        x.clear();
        due.is("thing(2, 1)", x.thing(DOOR, 1), 0);
        due.is("open(0, false): it is shut", x.open(0, false), 0);
        nothingIsLeft(w);
    }

    /** Things, properties and so on with the numbers of earlier ones have nothing of those. */
    private static void nothingIsLeft(WorldMake w) {
        for (int kind : new int[] {ROOM, ROOM, CARRIER, CARRIER, DOOR, BACKDROP, PERSON}) {
            w.thing(kind, 3);
        }
        due.is("kind(1)", w.kind(ROOM), 6);
        due.is("is(6, 4)", w.is(6, CARRIER), 0);
        w.property(THING, 4, 0);
        w.property(THING, 8, THING);
        w.relation(5);
        w.relation(0);
        w.shelf(THING, 4);
        w.table(3, 2, 44);
        for (int thing = 0; thing < 7; thing++) {
            due.is("place(" + thing + ", 0)", w.place(thing, 0), NONE);
            due.is("set(" + thing + ")", w.set(thing), 0);
            due.is("mark(" + thing + ", 0)", w.mark(thing, 0), 3);
            due.is("value(" + thing + ", 0)", w.value(thing, 0), 0);
            due.is("value(" + thing + ", 1)", w.value(thing, 1), NONE);
            due.is("given(" + thing + ", 0)", w.given(thing, 0), NONE);
            due.is("peek(0, 4, " + thing + ")", w.peek(0, 4, thing), 0);
            due.is("along(0, 1, " + thing + ")", w.along(0, 1, thing), thing == 1 ? 0 : NONE);
            due.is("along(1, 1, " + thing + ")", w.along(1, 1, thing), thing == 1 ? 0 : NONE);
        }
        due.is("load of 0", w.says(0, 2), 0);
        due.is("mark(2, 1)", w.mark(2, 1), 3);
        due.is("open(4, false)", w.open(4, false), 0);
        due.is("open(2, false)", w.open(2, false), 0);
        for (int d = 0; d < 8; d++) {
            due.is("sort(0, " + d + ")", w.sort(0, d), 0);
            due.is("leads(1, " + d + ")", w.leads(1, d), NONE);
        }
        due.is("route(0, 1)", w.route(0, 1, true), NONE);
        due.is("stands(0, 2)", w.stands(0, 2), NONE);
        due.is("read(0, 0, 0)", w.read(0, 0, 0), Due.NULL);
        due.is("most(2, 1)", w.most(2, 1), 0);
        due.is("put(2, 1): not barred", w.put(2, 1), 1);
        due.is("put(3, 1): no pair", w.put(3, 1), 2);
        due.is("among(6, {2})", w.among(6, 4), 3);
        due.is("settle(): one in 2", w.settle(), 1);
        due.is("relate(0, 3, 4): not denied", w.relate(0, 3, 4), 5);
        due.is("door(4, 0, 1, 1)", w.door(4, 0, 1, 1), 6);
    }
}
