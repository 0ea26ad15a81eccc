import java.util.Arrays;

/** A maker of worlds for stories. The comments use the words of its document (DOC.md). */
public final class WorldMake {
    public static final int UNKNOWN = -1, OUTSIDE = -2, STATE = -3, FULL = -4, NOWAY = -5, NONE = -9;

    /** The six kinds that are there at first; a base is one of these. */
    private static final int THING = 0, ROOM = 1, DOOR = 2, BACKDROP = 3, CARRIER = 4, PERSON = 5;

    private static final int MOST_KINDS = 24, MOST_PROPERTIES = 12, MOST_THINGS = 64, MOST_HOMES = 6;
    private static final int MOST_SENTENCES = 300, MOST_PAIRS = 16, MOST_RELATIONS = 8, DIRECTIONS = 8;
    private static final int MOST_SHELVES = 10, MOST_STANDS = 16;
    private static final int MOST_TABLES = 6, MOST_ROWS = 16, MOST_COLUMNS = 5;
    private static final int MOST_UNSETTLED = 7, MOST_WAYS = 3000, MOST_SIZE = 1000;
    /** Two counts, each thing's three words and properties, each room's exits, two for each relation. */
    private static final int MOST_WORDS =
        2 + MOST_THINGS * (3 + MOST_PROPERTIES) + MOST_THINGS * DIRECTIONS + 2 * MOST_RELATIONS;

    private static final int NULL_FAULT = 1, INDEX_FAULT = 2, CAST_FAULT = 3;
    private static final int STORE_FAULT = 4, SIZE_FAULT = 5, QUOTIENT_FAULT = 6;

    /** The sorts of sentences. */
    private static final int PUT = 0, BAR = 1, GIVE = 2, AMONG = 3, PAIR = 4;
    private static final int MOST = 5, RELATE = 6, DENY = 7, EXIT = 8, DOORWAY = 9;

    /** The lanes by their numbers; 5 are longs, which keep a value as it is. */
    private static final int LANE_TRUTHS = 0, LANE_BYTES = 1, LANE_SHORTS = 2, LANE_CHARS = 3;
    private static final int LANE_INTS = 4, LANE_FLOATS = 6, LANE_DOUBLES = 7, LANE_THINGS = 8;

    private static final int SAY_BULK = 0, SAY_WORTH = 1, SAY_LOAD = 2, SAY_LID = 3, SAY_STRIDE = 4;

    private static final int ONE_TO_ONE = 0, ONE_TO_MANY = 1, MANY_TO_ONE = 2, EACH_OTHER = 4, GROUPS = 5;

    private static final int NO_EXIT = 0, ASSUMED = 1, TOLD_ROOM = 2, TOLD_DOOR = 3, TOLD_NOTHING = 4;

    /** What a judge answers where nothing that was told stands against a call. */
    private static final int FITS = 0;

    /** What a search answers where it finds nothing. */
    private static final int MISSING = -1;

    private final Kinds kinds = new Kinds();
    private final Things things = new Things(kinds);
    private final Properties properties = new Properties(kinds, things);
    private final Log log = new Log();
    private final Places places = new Places(things, log);
    private final Relations relations = new Relations(log);
    private final Exits exits = new Exits(things);
    private final Shelves shelves = new Shelves(kinds, things);
    private final Tables tables = new Tables();
    private final Words words = new Words();
    private int latestFault = 0;
    private int latestCame = 0;

    public WorldMake() {
    }

    // ---- kinds, properties

    public int kind(int parent) {
        if (!kinds.has(parent)) {
            return UNKNOWN;
        }
        return kinds.size() >= MOST_KINDS ? FULL : kinds.add(parent);
    }

    public int is(int kind, int other) {
        if (!kinds.has(kind) || !kinds.has(other)) {
            return UNKNOWN;
        }
        return asNumber(kinds.comesTo(kind, other));
    }

    public int property(int kind, int lane, int of) {
        if (!kinds.has(kind) || (lane == LANE_THINGS && !kinds.has(of))) {
            return UNKNOWN;
        }
        if (!isLane(lane)) {
            return OUTSIDE;
        }
        return properties.size() >= MOST_PROPERTIES ? FULL : properties.add(kind, lane, of);
    }

    public int usual(int kind, int property, long v) {
        if (!kinds.has(kind) || !properties.has(property) || !properties.knows(property, v)) {
            return UNKNOWN;
        }
        if (!properties.isFor(property, kind)) {
            return STATE;
        }
        if (!properties.takes(property, v)) {
            return faulty(STORE_FAULT);
        }
        properties.keepUsual(property, kind, v);
        return 1;
    }

    // ---- things

    public int thing(int kind, int size) {
        if (!kinds.has(kind)) {
            return UNKNOWN;
        }
        if (size < 0 || size > MOST_SIZE) {
            return OUTSIDE;
        }
        return things.size() >= MOST_THINGS ? FULL : things.add(kind, size);
    }

    public int put(int thing, int where) {
        if (!things.has(thing) || !things.has(where)) {
            return UNKNOWN;
        }
        if (!things.mayComeTo(thing, where)) {
            return STATE;
        }
        if (log.isFull() || things.homeCount(thing) >= MOST_HOMES) {
            return FULL;
        }
        int verdict = places.judgePut(thing, where);
        if (verdict != FITS) {
            return verdict;
        }
        things.layInto(thing, where);
        return log.tell(PUT, thing, where, 0);
    }

    public int bar(int thing, int where) {
        if (!things.has(thing) || !things.has(where)) {
            return UNKNOWN;
        }
        if (things.liesNowhere(thing) || !things.isHolder(where)) {
            return STATE;
        }
        if (log.isFull()) {
            return FULL;
        }
        int verdict = places.judgeBar(thing, where);
        if (verdict != FITS) {
            return verdict;
        }
        places.keepBar(thing, where);
        return log.tell(BAR, thing, where, 0);
    }

    public int give(int thing, int property, long v) {
        if (!things.has(thing) || !properties.has(property) || !properties.knows(property, v)) {
            return UNKNOWN;
        }
        if (!properties.isFor(property, things.kindOf(thing))) {
            return STATE;
        }
        if (log.isFull()) {
            return FULL;
        }
        if (!properties.takes(property, v)) {
            return faulty(STORE_FAULT);
        }
        if (properties.wasGivenAnother(property, thing, v)) {
            return against(log.latestOf(GIVE, thing, property));
        }
        properties.keepGiven(property, thing, v);
        return log.tell(GIVE, thing, property, 0);
    }

    public long value(int thing, int property) {
        if (!things.has(thing) || !properties.has(property)) {
            return UNKNOWN;
        }
        if (!properties.isFor(property, things.kindOf(thing))) {
            return STATE;
        }
        return properties.whatHas(thing, property);
    }

    public int given(int thing, int property) {
        if (!things.has(thing) || !properties.has(property)) {
            return UNKNOWN;
        }
        int sentence = log.latestOf(GIVE, thing, property);
        return sentence == MISSING ? NONE : sentence;
    }

    public long peek(int property, int lane, int i) {
        if (!properties.has(property)) {
            return UNKNOWN;
        }
        if (!isLane(lane)) {
            return OUTSIDE;
        }
        if (properties.laneOf(property) != lane) {
            return faulty(CAST_FAULT);
        }
        if (i < 0 || i >= MOST_THINGS) {
            return faulty(INDEX_FAULT);
        }
        return properties.givenCell(property, i);
    }

    public int place(int thing, int k) {
        return things.has(thing) ? things.homeOf(thing, k) : UNKNOWN;
    }

    public int says(int thing, int what) {
        if (!things.has(thing)) {
            return UNKNOWN;
        }
        return isSaying(what) ? saying(thing, what) : OUTSIDE;
    }

    public int follow(int thing, int property, int what) {
        if (!things.has(thing) || !properties.has(property)) {
            return UNKNOWN;
        }
        if (!isSaying(what)) {
            return OUTSIDE;
        }
        if (!properties.isFor(property, things.kindOf(thing))) {
            return STATE;
        }
        if (properties.laneOf(property) != LANE_THINGS) {
            return faulty(CAST_FAULT);
        }
        int other = (int) properties.whatHas(thing, property);
        return things.has(other) ? saying(other, what) : faulty(NULL_FAULT);
    }

    public int mark(int thing, int how) {
        if (!things.has(thing)) {
            return UNKNOWN;
        }
        if (how < 0 || how > 1) {
            return OUTSIDE;
        }
        if (how == 1 && !things.hasLid(thing)) {
            return faulty(CAST_FAULT);
        }
        return things.markOf(thing, how == 1);
    }

    public int remark(int thing, int how, int v) {
        if (!things.has(thing)) {
            return UNKNOWN;
        }
        if (how < 0 || how > 1 || v < 0 || v > MOST_SIZE) {
            return OUTSIDE;
        }
        if (how == 1 && !things.hasLid(thing)) {
            return faulty(CAST_FAULT);
        }
        int was = things.markOf(thing, how == 1);
        things.keepMark(thing, how == 1, v);
        return was;
    }

    public int open(int thing, boolean is) {
        if (!things.has(thing)) {
            return UNKNOWN;
        }
        if (!things.hasLid(thing)) {
            return faulty(CAST_FAULT);
        }
        boolean was = things.isOpen(thing);
        things.keepOpen(thing, is);
        return asNumber(was);
    }

    // ---- places that are not sure

    public int among(int thing, long set) {
        if (!things.has(thing) || !things.hasAll(set)) {
            return UNKNOWN;
        }
        if (set == 0) {
            return OUTSIDE;
        }
        if (!things.isMovable(thing) || hasBit(set, thing) || !things.areHolders(set)) {
            return STATE;
        }
        if (log.isFull()) {
            return FULL;
        }
        int verdict = places.judgeAmong(thing, set);
        if (verdict != FITS) {
            return verdict;
        }
        places.keepAmong(thing, set);
        return log.tell(AMONG, thing, (int) set, 0);
    }

    public int pair(int one, int other, boolean alike) {
        if (!things.has(one) || !things.has(other)) {
            return UNKNOWN;
        }
        if (one == other || !things.isMovable(one) || !things.isMovable(other)) {
            return STATE;
        }
        if (log.isFull() || places.pairCount() >= MOST_PAIRS) {
            return FULL;
        }
        int verdict = places.judgePair(one, other, alike);
        if (verdict != FITS) {
            return verdict;
        }
        places.keepPair(one, other, alike, log.size());
        return log.tell(PAIR, one, other, 0);
    }

    public int most(int where, int n) {
        if (!things.has(where)) {
            return UNKNOWN;
        }
        if (n < 0 || n > MOST_THINGS) {
            return OUTSIDE;
        }
        if (!things.isHolder(where) || places.hasLimit(where)) {
            return STATE;
        }
        if (log.isFull()) {
            return FULL;
        }
        int verdict = places.judgeMost(where, n);
        if (verdict != FITS) {
            return verdict;
        }
        places.keepLimit(where, n);
        return log.tell(MOST, where, n, 0);
    }

    public int settle() {
        int unsettled = places.gatherUnsettled();
        if (unsettled > MOST_UNSETTLED || places.countWays(unsettled) > MOST_WAYS) {
            return STATE;
        }
        if (log.size() + unsettled > MOST_SENTENCES) {
            return FULL;
        }
        return places.takeLeastWay(unsettled) ? unsettled : NOWAY;
    }

    public long set(int thing) {
        return things.has(thing) ? places.setOf(thing) : 0;
    }

    // ---- relations

    public int relation(int form) {
        if (form < ONE_TO_ONE || form > GROUPS) {
            return OUTSIDE;
        }
        return relations.size() >= MOST_RELATIONS ? FULL : relations.add(form);
    }

    public int relate(int relation, int a, int b) {
        if (!areRelatable(relation, a, b)) {
            return UNKNOWN;
        }
        if (a == b || relations.holds(relation, a, b)) {
            return STATE;
        }
        if (log.isFull()) {
            return FULL;
        }
        int verdict = relations.judgeRelate(relation, a, b);
        if (verdict != FITS) {
            return verdict;
        }
        relations.keep(relation, a, b);
        return log.tell(RELATE, relation, a, b);
    }

    public int deny(int relation, int a, int b) {
        if (!areRelatable(relation, a, b)) {
            return UNKNOWN;
        }
        if (a == b || relations.wasDenied(relation, a, b)) {
            return STATE;
        }
        if (log.isFull()) {
            return FULL;
        }
        int verdict = relations.judgeDeny(relation, a, b);
        return verdict != FITS ? verdict : log.tell(DENY, relation, a, b);
    }

    public int related(int relation, int a, int b) {
        return areRelatable(relation, a, b) ? asNumber(relations.holds(relation, a, b)) : UNKNOWN;
    }

    public int along(int relation, int a, int b) {
        return areRelatable(relation, a, b) ? stepsOf(relations.waysOf(relation), a, b) : UNKNOWN;
    }

    public int next(int relation, int a, int b) {
        if (!areRelatable(relation, a, b)) {
            return UNKNOWN;
        }
        long[] ways = relations.waysOf(relation);
        return leastBit(ways[a] & ringBehind(ways, a, b));
    }

    // ---- the map

    public int exit(int room, int d, int to) {
        if (!isRoom(room) || (to != NONE && !isRoom(to))) {
            return UNKNOWN;
        }
        if (!isDirection(d)) {
            return OUTSIDE;
        }
        if (exits.wasToldSo(room, d, to)) {
            return STATE;
        }
        if (log.isFull()) {
            return FULL;
        }
        if (exits.wasTold(room, d)) {
            return against(exits.tellerOf(room, d));
        }
        exits.keepExit(room, d, to, log.size());
        return log.tell(EXIT, room, d, to);
    }

    public int door(int door, int a, int d, int b) {
        if (!things.has(door) || !isRoom(a) || !isRoom(b)) {
            return UNKNOWN;
        }
        if (!isDirection(d)) {
            return OUTSIDE;
        }
        if (!things.isOf(door, DOOR) || a == b) {
            return STATE;
        }
        if (log.isFull()) {
            return FULL;
        }
        int verdict = judgeDoor(door, a, d, b);
        if (verdict != FITS) {
            return verdict;
        }
        exits.keepDoor(a, d, b, door, log.size());
        exits.keepDoor(b, opposite(d), a, door, log.size());
        return log.tell(DOORWAY, door, a, d);
    }

    public int leads(int room, int d) {
        if (!isRoom(room)) {
            return UNKNOWN;
        }
        return isDirection(d) ? exits.targetOf(room, d) : OUTSIDE;
    }

    public int sort(int room, int d) {
        if (!isRoom(room)) {
            return UNKNOWN;
        }
        return isDirection(d) ? exits.sortOf(room, d) : OUTSIDE;
    }

    public int route(int a, int b, boolean any) {
        return isRoom(a) && isRoom(b) ? stepsOf(exits.waysOfRooms(any), a, b) : UNKNOWN;
    }

    public int first(int a, int b, boolean any) {
        if (!isRoom(a) || !isRoom(b)) {
            return UNKNOWN;
        }
        return exits.directionInto(a, ringBehind(exits.waysOfRooms(any), a, b), any);
    }

    // ---- shelves

    public int shelf(int kind, int n) {
        if (!kinds.has(kind)) {
            return UNKNOWN;
        }
        if (n > MOST_STANDS) {
            return OUTSIDE;
        }
        if (shelves.size() >= MOST_SHELVES) {
            return FULL;
        }
        return n < 0 ? faulty(SIZE_FAULT) : shelves.add(kind, n);
    }

    public int stand(int shelf, int i, int thing) {
        if (!shelves.has(shelf) || (thing != NONE && !things.has(thing))) {
            return UNKNOWN;
        }
        if (!shelves.hasStand(shelf, i)) {
            return faulty(INDEX_FAULT);
        }
        if (!shelves.takes(shelf, thing)) {
            return faulty(STORE_FAULT);
        }
        shelves.keep(shelf, i, thing);
        return 1;
    }

    public int stands(int shelf, int i) {
        if (!shelves.has(shelf)) {
            return UNKNOWN;
        }
        return shelves.hasStand(shelf, i) ? shelves.standing(shelf, i) : faulty(INDEX_FAULT);
    }

    public int haul(int from, int i, int to, int j, int n) {
        if (!shelves.has(from) || !shelves.has(to)) {
            return UNKNOWN;
        }
        if (!shelves.hasStretch(from, i, n) || !shelves.hasStretch(to, j, n)) {
            return faulty(INDEX_FAULT);
        }
        shelves.lift(from, i, n);
        latestCame = shelves.setDown(to, j, n);
        return latestCame == n ? n : faulty(STORE_FAULT);
    }

    public int came() {
        return latestCame;
    }

    // ---- tables

    public int table(int rows, int columns, int lanes) {
        if (rows < 1 || rows > MOST_ROWS || columns < 1 || columns > MOST_COLUMNS) {
            return OUTSIDE;
        }
        if (!tables.areLanes(lanes, columns)) {
            return OUTSIDE;
        }
        return tables.size() >= MOST_TABLES ? FULL : tables.add(rows, columns, lanes);
    }

    public int fill(int table, int row, int column, long v) {
        if (!tables.has(table)) {
            return UNKNOWN;
        }
        if (!tables.hasCell(table, row, column)) {
            return faulty(INDEX_FAULT);
        }
        tables.keep(table, row, column, v);
        return 1;
    }

    public int blank(int table, int row, int column) {
        if (!tables.has(table)) {
            return UNKNOWN;
        }
        if (!tables.hasCell(table, row, column)) {
            return faulty(INDEX_FAULT);
        }
        boolean wasFilled = tables.isFilled(table, row, column);
        tables.wipe(table, row, column);
        return asNumber(wasFilled);
    }

    public long read(int table, int row, int column) {
        if (!tables.has(table)) {
            return UNKNOWN;
        }
        if (!tables.hasCell(table, row, column)) {
            return faulty(INDEX_FAULT);
        }
        return tables.isFilled(table, row, column) ? tables.cell(table, row, column) : faulty(NULL_FAULT);
    }

    public int choose(int table, int column, long v, int from) {
        if (!tables.has(table)) {
            return UNKNOWN;
        }
        if (from < 0 || from >= MOST_ROWS) {
            return OUTSIDE;
        }
        return tables.hasColumn(table, column) ? tables.rowTelling(table, column, v, from) : faulty(INDEX_FAULT);
    }

    public int rank(int table, int column, boolean falling) {
        if (!tables.has(table)) {
            return UNKNOWN;
        }
        return tables.hasColumn(table, column) ? tables.order(table, column, falling) : faulty(INDEX_FAULT);
    }

    public long total(int table, int column) {
        if (!tables.has(table)) {
            return UNKNOWN;
        }
        return tables.hasColumn(table, column) ? tables.sum(table, column) : faulty(INDEX_FAULT);
    }

    public long mean(int table, int column) {
        if (!tables.has(table)) {
            return UNKNOWN;
        }
        if (!tables.hasColumn(table, column)) {
            return faulty(INDEX_FAULT);
        }
        int filled = tables.countFilled(table, column);
        return filled == 0 ? faulty(QUOTIENT_FAULT) : tables.sum(table, column) / filled;
    }

    // ---- all of it

    public int make() {
        if (!things.hasRoom() || places.gatherUnsettled() > 0) {
            return STATE;
        }
        words.reset();
        words.add(kinds.size());
        words.add(things.size());
        addThings();
        addRooms();
        addRelations();
        return words.size();
    }

    public int word(int i) {
        return words.at(i);
    }

    public long digest() {
        return words.fold();
    }

    public int sentence(int i, int what) {
        if (!log.has(i)) {
            return UNKNOWN;
        }
        switch (what) {
            case 0: return log.sortOf(i);
            case 1: return log.oneOf(i);
            case 2: return log.twoOf(i);
            default: return OUTSIDE;
        }
    }

    public int count(int what) {
        switch (what) {
            case 0: return kinds.size();
            case 1: return properties.size();
            case 2: return things.size();
            case 3: return log.size();
            case 4: return relations.size();
            case 5: return shelves.size();
            case 6: return tables.size();
            case 7: return places.gatherUnsettled();
            case 8: return words.size();
            case 9: return places.pairCount();
            default: return OUTSIDE;
        }
    }

    public int fault() {
        return latestFault;
    }

    public int clear() {
        int were = things.size();
        kinds.reset();
        things.reset();
        properties.reset();
        log.reset();
        places.reset();
        relations.reset();
        exits.reset();
        shelves.reset();
        tables.reset();
        words.reset();
        latestFault = 0;
        latestCame = 0;
        return were;
    }

    // ---- what several calls use

    private int faulty(int fault) {
        latestFault = fault;
        return -10 - fault;
    }

    private static int against(int sentence) {
        return -100 - sentence;
    }

    private static int asNumber(boolean truth) {
        return truth ? 1 : 0;
    }

    private static boolean isLane(int lane) {
        return lane >= LANE_TRUTHS && lane <= LANE_THINGS;
    }

    private static boolean isSaying(int what) {
        return what >= SAY_BULK && what <= SAY_STRIDE;
    }

    private static boolean isDirection(int d) {
        return d >= 0 && d < DIRECTIONS;
    }

    private static int opposite(int d) {
        return d ^ 1;
    }

    private boolean isRoom(int thing) {
        return things.has(thing) && things.isOf(thing, ROOM);
    }

    private boolean areRelatable(int relation, int a, int b) {
        return relations.has(relation) && things.has(a) && things.has(b);
    }

    private int saying(int thing, int what) {
        if (!things.canSay(thing, what)) {
            return faulty(CAST_FAULT);
        }
        if (what == SAY_STRIDE && things.loadOf(thing) == 0) {
            return faulty(QUOTIENT_FAULT);
        }
        return things.answer(thing, what);
    }

    private int judgeDoor(int door, int a, int d, int b) {
        int earlier = log.firstAbout(DOORWAY, door);
        if (earlier != MISSING) {
            return against(earlier);
        }
        if (exits.wasTold(a, d)) {
            return against(exits.tellerOf(a, d));
        }
        return exits.wasTold(b, opposite(d)) ? against(exits.tellerOf(b, opposite(d))) : FITS;
    }

    private void addThings() {
        for (int thing = 0; thing < things.size(); thing++) {
            int kind = things.kindOf(thing);
            words.add(kind);
            words.add(things.homeOf(thing, 0));
            words.add(things.sizeOf(thing));
            for (int property = 0; property < properties.size(); property++) {
                if (properties.isFor(property, kind)) {
                    words.add((int) properties.whatHas(thing, property));
                }
            }
        }
    }

    private void addRooms() {
        for (int room = 0; room < things.size(); room++) {
            if (!things.isOf(room, ROOM)) {
                continue;
            }
            for (int d = 0; d < DIRECTIONS; d++) {
                words.add(exits.targetOf(room, d));
            }
        }
    }

    private void addRelations() {
        for (int relation = 0; relation < relations.size(); relation++) {
            words.add(relations.formOf(relation));
            words.add(relations.countCouples(relation));
        }
    }

    private static long bit(int k) {
        return 1L << k;
    }

    private static boolean hasBit(long set, int k) {
        return (set & bit(k)) != 0;
    }

    private static int leastBit(long set) {
        return set == 0 ? NONE : Long.numberOfTrailingZeros(set);
    }

    /** What a cell of a lane tells when v has come into it; each lane's cells are as unlike as what they tell. */
    private static long cellOf(int lane, long v) {
        switch (lane) {
            case LANE_TRUTHS: return v != 0 ? 1 : 0;
            case LANE_BYTES: return (byte) v;
            case LANE_SHORTS: return (short) v;
            case LANE_CHARS: return (char) v;
            case LANE_INTS: return (int) v;
            case LANE_FLOATS: return (long) (float) v;
            case LANE_DOUBLES: return (long) (double) v;
            default: return v;
        }
    }

    /** All from which one step comes into the ring; ways[x] has the bits of those to which x has a step. */
    private static long stepBack(long[] ways, long ring) {
        long from = 0;
        for (int x = 0; x < ways.length; x++) {
            if ((ways[x] & ring) != 0) {
                from |= bit(x);
            }
        }
        return from;
    }

    /** How many steps the shortest way from a to b has; NONE if there is none. */
    private static int stepsOf(long[] ways, int a, int b) {
        long ring = bit(b);
        long seen = ring;
        for (int steps = 0; steps < MOST_THINGS && ring != 0; steps++) {
            if (hasBit(ring, a)) {
                return steps;
            }
            ring = stepBack(ways, ring) & ~seen;
            seen |= ring;
        }
        return NONE;
    }

    /** Those that are one step nearer to b than a is; none if a is b, or no way goes from a to b. */
    private static long ringBehind(long[] ways, int a, int b) {
        long ring = bit(b);
        long seen = ring;
        for (int steps = 0; steps < MOST_THINGS && ring != 0 && !hasBit(seen, a); steps++) {
            long wider = stepBack(ways, ring) & ~seen;
            if (hasBit(wider, a)) {
                return ring;
            }
            ring = wider;
            seen |= wider;
        }
        return 0;
    }

    /** The kinds: each one's parent, and its base. */
    private static final class Kinds {
        private final int[] parents = new int[MOST_KINDS];
        private final int[] bases = new int[MOST_KINDS];
        private int size;

        Kinds() {
            reset();
        }

        void reset() {
            for (int kind = THING; kind <= PERSON; kind++) {
                parents[kind] = THING;
                bases[kind] = kind;
            }
            parents[PERSON] = CARRIER;
            size = PERSON + 1;
        }

        int size() {
            return size;
        }

        boolean has(int kind) {
            return kind >= 0 && kind < size;
        }

        int add(int parent) {
            parents[size] = parent;
            bases[size] = bases[parent];
            return size++;
        }

        int parentOf(int kind) {
            return parents[kind];
        }

        int baseOf(int kind) {
            return bases[kind];
        }

        boolean comesTo(int kind, int other) {
            int at = kind;
            for (int steps = 0; steps < MOST_KINDS && at != other && at != THING; steps++) {
                at = parents[at];
            }
            return at == other;
        }
    }

    /** The things: what each is, its marks, and where it lies for sure. */
    private static final class Things {
        private final Kinds kinds;
        private final int[] kindsOf = new int[MOST_THINGS];
        private final int[] bases = new int[MOST_THINGS];
        private final int[] sizes = new int[MOST_THINGS];
        private final int[] marks = new int[MOST_THINGS];
        private final int[] ownMarks = new int[MOST_THINGS];
        private final int[] homes = new int[MOST_THINGS * MOST_HOMES];
        private final int[] homeCounts = new int[MOST_THINGS];
        /** How many that are no backdrops lie in each; settle() asks for it often. */
        private final int[] heldCounts = new int[MOST_THINGS];
        private long openOnes;
        private int size;

        Things(Kinds kinds) {
            this.kinds = kinds;
        }

        void reset() {
            size = 0;
            openOnes = 0;
        }

        int size() {
            return size;
        }

        boolean has(long thing) {
            return thing >= 0 && thing < size;
        }

        boolean hasAll(long set) {
            for (int k = size; k < MOST_THINGS; k++) {
                if (hasBit(set, k)) {
                    return false;
                }
            }
            return true;
        }

        int add(int kind, int bigness) {
            kindsOf[size] = kind;
            bases[size] = kinds.baseOf(kind);
            sizes[size] = bigness;
            marks[size] = bigness;
            ownMarks[size] = bigness;
            homeCounts[size] = 0;
            heldCounts[size] = 0;
            return size++;
        }

        int kindOf(int thing) {
            return kindsOf[thing];
        }

        int sizeOf(int thing) {
            return sizes[thing];
        }

        boolean isOf(int thing, int base) {
            return kinds.comesTo(bases[thing], base);
        }

        boolean isHolder(int thing) {
            return isOf(thing, ROOM) || isOf(thing, CARRIER);
        }

        boolean areHolders(long set) {
            for (int k = 0; k < size; k++) {
                if (hasBit(set, k) && !isHolder(k)) {
                    return false;
                }
            }
            return true;
        }

        boolean hasRoom() {
            for (int k = 0; k < size; k++) {
                if (isOf(k, ROOM)) {
                    return true;
                }
            }
            return false;
        }

        boolean hasLid(int thing) {
            return isOf(thing, DOOR) || isOf(thing, CARRIER);
        }

        boolean liesNowhere(int thing) {
            return isOf(thing, ROOM) || isOf(thing, DOOR);
        }

        /** Whether it lies in one holder at most, if anywhere. */
        boolean isMovable(int thing) {
            return !liesNowhere(thing) && !isOf(thing, BACKDROP);
        }

        int markOf(int thing, boolean own) {
            return own ? ownMarks[thing] : marks[thing];
        }

        void keepMark(int thing, boolean own, int v) {
            if (own) {
                ownMarks[thing] = v;
            } else {
                marks[thing] = v;
            }
        }

        boolean isOpen(int thing) {
            return hasBit(openOnes, thing);
        }

        void keepOpen(int thing, boolean is) {
            openOnes = is ? openOnes | bit(thing) : openOnes & ~bit(thing);
        }

        int homeCount(int thing) {
            return homeCounts[thing];
        }

        int homeOf(int thing, int k) {
            return k >= 0 && k < homeCounts[thing] ? homes[thing * MOST_HOMES + k] : NONE;
        }

        boolean liesIn(int thing, int where) {
            for (int k = 0; k < homeCounts[thing]; k++) {
                if (homeOf(thing, k) == where) {
                    return true;
                }
            }
            return false;
        }

        /** Whether it lies in a holder, or in what lies in that, and so on. */
        boolean liesWithin(int thing, int holder) {
            int at = homeOf(thing, 0);
            for (int steps = 0; steps < MOST_THINGS && at != NONE; steps++) {
                if (at == holder) {
                    return true;
                }
                at = homeOf(at, 0);
            }
            return false;
        }

        boolean wouldHoldItself(int thing, int where) {
            return thing == where || liesWithin(where, thing);
        }

        boolean mayComeTo(int thing, int where) {
            boolean holds = isOf(thing, BACKDROP) ? isOf(where, ROOM) : isHolder(where);
            return holds && !liesNowhere(thing) && !wouldHoldItself(thing, where) && !liesIn(thing, where);
        }

        void layInto(int thing, int where) {
            if (homeCounts[thing] >= MOST_HOMES) {
                return;
            }
            homes[thing * MOST_HOMES + homeCounts[thing]] = where;
            homeCounts[thing]++;
            if (!isOf(thing, BACKDROP)) {
                heldCounts[where]++;
            }
        }

        /** Takes back the only layInto() of a thing that is no backdrop. */
        void takeOut(int thing) {
            int where = homeOf(thing, 0);
            if (where != NONE) {
                homeCounts[thing] = 0;
                heldCounts[where]--;
            }
        }

        int heldCount(int holder) {
            return heldCounts[holder];
        }

        boolean canSay(int thing, int what) {
            switch (what) {
                case SAY_LOAD: return isHolder(thing);
                case SAY_LID: return hasLid(thing);
                case SAY_STRIDE: return isOf(thing, PERSON);
                default: return true;
            }
        }

        int answer(int thing, int what) {
            switch (what) {
                case SAY_BULK: return bulkOf(thing);
                case SAY_WORTH: return worthOf(thing);
                case SAY_LOAD: return loadOf(thing);
                case SAY_LID: return lidOf(thing);
                default: return strideOf(thing);
            }
        }

        private int bulkOf(int thing) {
            switch (bases[thing]) {
                case ROOM: return loadOf(thing);
                case DOOR: return 2 * sizes[thing];
                case CARRIER:
                case PERSON: return bareBulkOf(thing) + loadOf(thing);
                default: return bareBulkOf(thing);
            }
        }

        /** What a thing that lies somewhere weighs without what lies in it. */
        private int bareBulkOf(int thing) {
            switch (bases[thing]) {
                case BACKDROP: return 0;
                case PERSON: return sizes[thing] + 10;
                default: return sizes[thing];
            }
        }

        /** All within count bare, which comes to the bulks of those in it without going down level by level. */
        int loadOf(int holder) {
            int load = 0;
            for (int k = 0; k < size; k++) {
                if (liesWithin(k, holder)) {
                    load += bareBulkOf(k);
                }
            }
            return load;
        }

        private int worthOf(int thing) {
            int plain = 3 * sizes[thing] + 1;
            switch (bases[thing]) {
                case ROOM: return plain + 1000;
                case DOOR: return plain + 100;
                case BACKDROP: return -plain;
                case PERSON: return 2 * plain;
                default: return plain;
            }
        }

        private int lidOf(int thing) {
            int open = asNumber(isOpen(thing));
            return isOf(thing, DOOR) ? 10 * ownMarks[thing] + open : ownMarks[thing] + 1000 * open;
        }

        private int strideOf(int thing) {
            int load = loadOf(thing);
            return load == 0 ? 0 : 1000 / load;
        }
    }

    /** The properties: of which kind, of which lane, what is usual, and what was given. Cells are kept as they tell. */
    private static final class Properties {
        private final Kinds kinds;
        private final Things things;
        private final int[] owners = new int[MOST_PROPERTIES];
        private final int[] lanes = new int[MOST_PROPERTIES];
        private final int[] targets = new int[MOST_PROPERTIES];
        private final long[][] givenRows = new long[MOST_PROPERTIES][MOST_THINGS];
        private final long[] givenOnes = new long[MOST_PROPERTIES];
        private final long[][] usualRows = new long[MOST_PROPERTIES][MOST_KINDS];
        private final long[] usualOnes = new long[MOST_PROPERTIES];
        private int size;

        Properties(Kinds kinds, Things things) {
            this.kinds = kinds;
            this.things = things;
        }

        void reset() {
            size = 0;
        }

        int size() {
            return size;
        }

        boolean has(int property) {
            return property >= 0 && property < size;
        }

        int add(int kind, int lane, int of) {
            owners[size] = kind;
            lanes[size] = lane;
            targets[size] = lane == LANE_THINGS ? kinds.baseOf(of) : THING;
            Arrays.fill(givenRows[size], emptyOf(size));
            givenOnes[size] = 0;
            usualOnes[size] = 0;
            return size++;
        }

        int laneOf(int property) {
            return lanes[property];
        }

        private long emptyOf(int property) {
            return lanes[property] == LANE_THINGS ? NONE : 0;
        }

        boolean isFor(int property, int kind) {
            return kinds.comesTo(kind, owners[property]);
        }

        /** Whether v is a number that the lane has a meaning for. */
        boolean knows(int property, long v) {
            return lanes[property] != LANE_THINGS || v == NONE || things.has(v);
        }

        /** Whether a cell takes a v that it knows. */
        boolean takes(int property, long v) {
            if (lanes[property] != LANE_THINGS || !things.has(v)) {
                return true;
            }
            return things.isOf((int) v, targets[property]);
        }

        void keepUsual(int property, int kind, long v) {
            usualRows[property][kind] = cellOf(lanes[property], v);
            usualOnes[property] |= bit(kind);
        }

        boolean wasGivenAnother(int property, int thing, long v) {
            return hasBit(givenOnes[property], thing) && givenRows[property][thing] != cellOf(lanes[property], v);
        }

        void keepGiven(int property, int thing, long v) {
            givenRows[property][thing] = cellOf(lanes[property], v);
            givenOnes[property] |= bit(thing);
        }

        long givenCell(int property, int thing) {
            return givenRows[property][thing];
        }

        long whatHas(int thing, int property) {
            if (hasBit(givenOnes[property], thing)) {
                return givenRows[property][thing];
            }
            int kind = things.kindOf(thing);
            for (int steps = 0; steps < MOST_KINDS; steps++) {
                if (hasBit(usualOnes[property], kind)) {
                    return usualRows[property][kind];
                }
                kind = kinds.parentOf(kind);
            }
            return emptyOf(property);
        }
    }

    /** The sentences as they came: of each its sort and up to three numbers. */
    private static final class Log {
        private final int[] sorts = new int[MOST_SENTENCES];
        private final int[] ones = new int[MOST_SENTENCES];
        private final int[] twos = new int[MOST_SENTENCES];
        private final int[] threes = new int[MOST_SENTENCES];
        private int size;

        void reset() {
            size = 0;
        }

        int size() {
            return size;
        }

        boolean isFull() {
            return size >= MOST_SENTENCES;
        }

        boolean has(int i) {
            return i >= 0 && i < size;
        }

        int tell(int sort, int one, int two, int three) {
            if (isFull()) {
                return FULL;
            }
            sorts[size] = sort;
            ones[size] = one;
            twos[size] = two;
            threes[size] = three;
            return size++;
        }

        int sortOf(int i) {
            return sorts[i];
        }

        int oneOf(int i) {
            return ones[i];
        }

        int twoOf(int i) {
            return twos[i];
        }

        int threeOf(int i) {
            return threes[i];
        }

        boolean isAbout(int i, int sort, int one) {
            return sorts[i] == sort && ones[i] == one;
        }

        int firstAbout(int sort, int one) {
            for (int i = 0; i < size; i++) {
                if (isAbout(i, sort, one)) {
                    return i;
                }
            }
            return MISSING;
        }

        int latestAbout(int sort, int one) {
            for (int i = size - 1; i >= 0; i--) {
                if (isAbout(i, sort, one)) {
                    return i;
                }
            }
            return MISSING;
        }

        int firstOf(int sort, int one, int two) {
            for (int i = 0; i < size; i++) {
                if (isAbout(i, sort, one) && twos[i] == two) {
                    return i;
                }
            }
            return MISSING;
        }

        int latestOf(int sort, int one, int two) {
            for (int i = size - 1; i >= 0; i--) {
                if (isAbout(i, sort, one) && twos[i] == two) {
                    return i;
                }
            }
            return MISSING;
        }
    }

    /** What was told of places beside put(): sets, bars, pairs, limits; and the judging of all of it. */
    private static final class Places {
        private final Things things;
        private final Log log;
        /** 0 for a thing without a set: nothing ever empties one. */
        private final long[] sets = new long[MOST_THINGS];
        private final long[] barred = new long[MOST_THINGS];
        private final int[] limits = new int[MOST_THINGS];
        private final int[] pairOnes = new int[MOST_PAIRS];
        private final int[] pairOthers = new int[MOST_PAIRS];
        private final boolean[] pairAlike = new boolean[MOST_PAIRS];
        private final int[] pairSentences = new int[MOST_PAIRS];
        private final int[] unsettled = new int[MOST_UNSETTLED];
        private int pairCount;

        Places(Things things, Log log) {
            this.things = things;
            this.log = log;
            reset();
        }

        void reset() {
            Arrays.fill(sets, 0);
            Arrays.fill(barred, 0);
            Arrays.fill(limits, NONE);
            pairCount = 0;
        }

        int pairCount() {
            return pairCount;
        }

        long setOf(int thing) {
            return sets[thing];
        }

        boolean hasLimit(int where) {
            return limits[where] != NONE;
        }

        private boolean isFilled(int where) {
            return hasLimit(where) && things.heldCount(where) >= limits[where];
        }

        int judgePut(int thing, int where) {
            boolean movable = things.isMovable(thing);
            if (movable && things.homeCount(thing) > 0) {
                return against(log.firstAbout(PUT, thing));
            }
            if (hasBit(barred[thing], where)) {
                return against(log.firstOf(BAR, thing, where));
            }
            if (sets[thing] != 0 && !hasBit(sets[thing], where)) {
                return against(log.latestAbout(AMONG, thing));
            }
            if (movable && isFilled(where)) {
                return against(log.firstAbout(MOST, where));
            }
            int pair = firstPairBroken(thing, where);
            return pair == MISSING ? FITS : against(pairSentences[pair]);
        }

        /** The first pair of a thing with one that lies somewhere, against which it would lie in a holder. */
        private int firstPairBroken(int thing, int where) {
            for (int p = 0; p < pairCount; p++) {
                int partner = partnerOf(thing, p);
                if (partner == NONE || things.homeCount(partner) == 0) {
                    continue;
                }
                if ((things.homeOf(partner, 0) == where) != pairAlike[p]) {
                    return p;
                }
            }
            return MISSING;
        }

        private int partnerOf(int thing, int p) {
            if (pairOnes[p] == thing) {
                return pairOthers[p];
            }
            return pairOthers[p] == thing ? pairOnes[p] : NONE;
        }

        int judgeBar(int thing, int where) {
            if (things.liesIn(thing, where)) {
                return against(log.firstOf(PUT, thing, where));
            }
            return sets[thing] == bit(where) ? against(log.latestAbout(AMONG, thing)) : FITS;
        }

        void keepBar(int thing, int where) {
            barred[thing] |= bit(where);
            sets[thing] &= ~bit(where);
        }

        int judgeAmong(int thing, long set) {
            if (things.homeCount(thing) > 0 && !hasBit(set, things.homeOf(thing, 0))) {
                return against(log.firstAbout(PUT, thing));
            }
            if (sets[thing] != 0 && (sets[thing] & set) == 0) {
                return against(log.latestAbout(AMONG, thing));
            }
            return (set & ~barred[thing]) == 0 ? against(firstBarInto(thing, set)) : FITS;
        }

        private int firstBarInto(int thing, long set) {
            for (int i = 0; i < log.size(); i++) {
                if (log.isAbout(i, BAR, thing) && hasBit(set, log.twoOf(i))) {
                    return i;
                }
            }
            return MISSING;
        }

        void keepAmong(int thing, long set) {
            long ahead = sets[thing] == 0 ? ~barred[thing] : sets[thing];
            sets[thing] = ahead & set;
        }

        int judgePair(int one, int other, boolean alike) {
            for (int p = 0; p < pairCount; p++) {
                if (partnerOf(one, p) == other && pairAlike[p] != alike) {
                    return against(pairSentences[p]);
                }
            }
            if (things.homeCount(one) == 0 || things.homeCount(other) == 0) {
                return FITS;
            }
            if ((things.homeOf(one, 0) == things.homeOf(other, 0)) == alike) {
                return FITS;
            }
            return against(Math.max(log.firstAbout(PUT, one), log.firstAbout(PUT, other)));
        }

        void keepPair(int one, int other, boolean alike, int sentence) {
            if (pairCount >= MOST_PAIRS) {
                return;
            }
            pairOnes[pairCount] = one;
            pairOthers[pairCount] = other;
            pairAlike[pairCount] = alike;
            pairSentences[pairCount] = sentence;
            pairCount++;
        }

        int judgeMost(int where, int n) {
            int seen = 0;
            for (int i = 0; i < log.size(); i++) {
                if (log.sortOf(i) != PUT || log.twoOf(i) != where || !things.isMovable(log.oneOf(i))) {
                    continue;
                }
                if (seen == n) {
                    return against(i);
                }
                seen++;
            }
            return FITS;
        }

        void keepLimit(int where, int n) {
            limits[where] = n;
        }

        /** How many are unsettled; the first seven of them come into the row. */
        int gatherUnsettled() {
            int found = 0;
            for (int thing = 0; thing < things.size(); thing++) {
                if (sets[thing] == 0 || things.homeCount(thing) > 0) {
                    continue;
                }
                if (found < MOST_UNSETTLED) {
                    unsettled[found] = thing;
                }
                found++;
            }
            return found;
        }

        /** What the sets of the gathered ones have, multiplied. */
        long countWays(int gathered) {
            long ways = 1;
            for (int k = 0; k < gathered && k < MOST_UNSETTLED; k++) {
                ways *= Long.bitCount(sets[unsettled[k]]);
            }
            return ways;
        }

        boolean takeLeastWay(int gathered) {
            if (!layFrom(0, gathered)) {
                return false;
            }
            for (int k = 0; k < gathered && k < MOST_UNSETTLED; k++) {
                log.tell(PUT, unsettled[k], things.homeOf(unsettled[k], 0), 0);
            }
            return true;
        }

        /** Lays the gathered ones from one on; what goes wrong early stays wrong, so such a branch is left at once. */
        private boolean layFrom(int k, int gathered) {
            if (k >= gathered || k >= MOST_UNSETTLED) {
                return true;
            }
            int thing = unsettled[k];
            long left = sets[thing];
            for (int tries = Long.bitCount(left); tries > 0; tries--) {
                int where = leastBit(left);
                left &= ~bit(where);
                if (!mayLieThen(thing, where)) {
                    continue;
                }
                things.layInto(thing, where);
                if (layFrom(k + 1, gathered)) {
                    return true;
                }
                things.takeOut(thing);
            }
            return false;
        }

        private boolean mayLieThen(int thing, int where) {
            return !isFilled(where) && !things.wouldHoldItself(thing, where)
                && firstPairBroken(thing, where) == MISSING;
        }
    }

    /** The relations: of each its form, and which things each thing has. */
    private static final class Relations {
        private final Log log;
        private final int[] forms = new int[MOST_RELATIONS];
        /** Of groups each thing has its whole group, itself too. */
        private final long[][] rows = new long[MOST_RELATIONS][MOST_THINGS];
        private final long[] replayed = new long[MOST_THINGS];
        private int size;

        Relations(Log log) {
            this.log = log;
        }

        void reset() {
            size = 0;
        }

        int size() {
            return size;
        }

        boolean has(int relation) {
            return relation >= 0 && relation < size;
        }

        int add(int form) {
            forms[size] = form;
            if (form == GROUPS) {
                standAlone(rows[size]);
            } else {
                Arrays.fill(rows[size], 0);
            }
            return size++;
        }

        int formOf(int relation) {
            return forms[relation];
        }

        long[] waysOf(int relation) {
            return rows[relation];
        }

        boolean holds(int relation, int a, int b) {
            return hasBit(rows[relation][a], b);
        }

        void keep(int relation, int a, int b) {
            if (forms[relation] == GROUPS) {
                bringTogether(rows[relation], a, b);
                return;
            }
            rows[relation][a] |= bit(b);
            if (forms[relation] == EACH_OTHER) {
                rows[relation][b] |= bit(a);
            }
        }

        private static void standAlone(long[] groups) {
            for (int x = 0; x < groups.length; x++) {
                groups[x] = bit(x);
            }
        }

        private static void bringTogether(long[] groups, int a, int b) {
            long all = groups[a] | groups[b];
            for (int x = 0; x < groups.length; x++) {
                if (hasBit(all, x)) {
                    groups[x] = all;
                }
            }
        }

        boolean wasDenied(int relation, int a, int b) {
            return firstDenial(relation, bit(a), bit(b), false) != MISSING;
        }

        int judgeRelate(int relation, int a, int b) {
            int form = forms[relation];
            boolean grouped = form == GROUPS;
            long some = grouped ? rows[relation][a] : bit(a);
            long others = grouped ? rows[relation][b] : bit(b);
            int denial = firstDenial(relation, some, others, grouped || form == EACH_OTHER);
            if (denial != MISSING) {
                return against(denial);
            }
            if ((form == ONE_TO_ONE || form == MANY_TO_ONE) && rows[relation][a] != 0) {
                return against(log.firstOf(RELATE, relation, a));
            }
            if (form == ONE_TO_ONE || form == ONE_TO_MANY) {
                int taken = firstRelateTo(relation, b);
                return taken == MISSING ? FITS : against(taken);
            }
            return FITS;
        }

        /** The first deny() of one of some with one of others, or the other way round too. */
        private int firstDenial(int relation, long some, long others, boolean bothWays) {
            for (int i = 0; i < log.size(); i++) {
                if (!log.isAbout(i, DENY, relation)) {
                    continue;
                }
                int a = log.twoOf(i);
                int b = log.threeOf(i);
                if (hasBit(some, a) && hasBit(others, b) || bothWays && hasBit(some, b) && hasBit(others, a)) {
                    return i;
                }
            }
            return MISSING;
        }

        private int firstRelateTo(int relation, int b) {
            for (int i = 0; i < log.size(); i++) {
                if (log.isAbout(i, RELATE, relation) && log.threeOf(i) == b) {
                    return i;
                }
            }
            return MISSING;
        }

        int judgeDeny(int relation, int a, int b) {
            if (!holds(relation, a, b)) {
                return FITS;
            }
            return against(forms[relation] == GROUPS ? meetingOf(relation, a, b) : relateOf(relation, a, b));
        }

        private int relateOf(int relation, int a, int b) {
            boolean bothWays = forms[relation] == EACH_OTHER;
            for (int i = 0; i < log.size(); i++) {
                if (!log.isAbout(i, RELATE, relation)) {
                    continue;
                }
                int one = log.twoOf(i);
                int other = log.threeOf(i);
                if (one == a && other == b || bothWays && one == b && other == a) {
                    return i;
                }
            }
            return MISSING;
        }

        /** The relate() with which a and b came together: the groups are brought together anew until they are. */
        private int meetingOf(int relation, int a, int b) {
            standAlone(replayed);
            for (int i = 0; i < log.size(); i++) {
                if (!log.isAbout(i, RELATE, relation)) {
                    continue;
                }
                bringTogether(replayed, log.twoOf(i), log.threeOf(i));
                if (hasBit(replayed[a], b)) {
                    return i;
                }
            }
            return MISSING;
        }

        int countCouples(int relation) {
            int couples = 0;
            for (int a = 0; a < MOST_THINGS; a++) {
                couples += Long.bitCount(rows[relation][a] & ~bit(a));
            }
            return couples;
        }
    }

    /** The map: of each room, at each direction, what sort of exit there is, whither it leads, and who told it. */
    private static final class Exits {
        private final Things things;
        private final int[] sorts = new int[MOST_THINGS * DIRECTIONS];
        private final int[] targets = new int[MOST_THINGS * DIRECTIONS];
        private final int[] doors = new int[MOST_THINGS * DIRECTIONS];
        private final int[] tellers = new int[MOST_THINGS * DIRECTIONS];
        private final long[] ways = new long[MOST_THINGS];

        Exits(Things things) {
            this.things = things;
            reset();
        }

        void reset() {
            Arrays.fill(sorts, NO_EXIT);
            Arrays.fill(targets, NONE);
        }

        private static int at(int room, int d) {
            return room * DIRECTIONS + d;
        }

        int sortOf(int room, int d) {
            return sorts[at(room, d)];
        }

        int targetOf(int room, int d) {
            return targets[at(room, d)];
        }

        int tellerOf(int room, int d) {
            return tellers[at(room, d)];
        }

        boolean wasTold(int room, int d) {
            return sortOf(room, d) >= TOLD_ROOM;
        }

        boolean wasToldSo(int room, int d, int to) {
            int due = to == NONE ? TOLD_NOTHING : TOLD_ROOM;
            return sortOf(room, d) == due && targetOf(room, d) == to;
        }

        void keepExit(int room, int d, int to, int sentence) {
            keep(at(room, d), to == NONE ? TOLD_NOTHING : TOLD_ROOM, to);
            tellers[at(room, d)] = sentence;
            if (to != NONE && sortOf(to, opposite(d)) == NO_EXIT) {
                keep(at(to, opposite(d)), ASSUMED, room);
            }
        }

        void keepDoor(int room, int d, int to, int door, int sentence) {
            keep(at(room, d), TOLD_DOOR, to);
            doors[at(room, d)] = door;
            tellers[at(room, d)] = sentence;
        }

        private void keep(int at, int sort, int to) {
            sorts[at] = sort;
            targets[at] = to;
        }

        private boolean isPassable(int room, int d, boolean any) {
            if (targetOf(room, d) == NONE) {
                return false;
            }
            return any || sortOf(room, d) != TOLD_DOOR || things.isOpen(doors[at(room, d)]);
        }

        /** Of each thing the rooms to which one of its exits lets through. */
        long[] waysOfRooms(boolean any) {
            Arrays.fill(ways, 0);
            for (int room = 0; room < things.size(); room++) {
                for (int d = 0; d < DIRECTIONS; d++) {
                    if (isPassable(room, d, any)) {
                        ways[room] |= bit(targetOf(room, d));
                    }
                }
            }
            return ways;
        }

        /** The least direction that lets through into one of some rooms. */
        int directionInto(int room, long some, boolean any) {
            for (int d = 0; d < DIRECTIONS; d++) {
                if (isPassable(room, d, any) && hasBit(some, targetOf(room, d))) {
                    return d;
                }
            }
            return NONE;
        }
    }

    /** The shelves: of each its base, its length, and what stands on it. */
    private static final class Shelves {
        private final Kinds kinds;
        private final Things things;
        private final int[] bases = new int[MOST_SHELVES];
        private final int[] lengths = new int[MOST_SHELVES];
        private final int[][] rows = new int[MOST_SHELVES][MOST_STANDS];
        private final int[] lifted = new int[MOST_STANDS];
        private int size;

        Shelves(Kinds kinds, Things things) {
            this.kinds = kinds;
            this.things = things;
        }

        void reset() {
            size = 0;
        }

        int size() {
            return size;
        }

        boolean has(int shelf) {
            return shelf >= 0 && shelf < size;
        }

        int add(int kind, int n) {
            bases[size] = kinds.baseOf(kind);
            lengths[size] = n;
            Arrays.fill(rows[size], NONE);
            return size++;
        }

        boolean hasStand(int shelf, int i) {
            return i >= 0 && i < lengths[shelf];
        }

        /** Whether n places from i on are there; i may be the end where n is 0. */
        boolean hasStretch(int shelf, int i, int n) {
            return i >= 0 && n >= 0 && i <= lengths[shelf] && n <= lengths[shelf] - i;
        }

        boolean takes(int shelf, int thing) {
            return !things.has(thing) || things.isOf(thing, bases[shelf]);
        }

        void keep(int shelf, int i, int thing) {
            rows[shelf][i] = thing;
        }

        int standing(int shelf, int i) {
            return rows[shelf][i];
        }

        /** Takes a copy ahead of any change, since both stretches may be of the same shelf. */
        void lift(int shelf, int i, int n) {
            for (int k = 0; k < n; k++) {
                lifted[k] = rows[shelf][i + k];
            }
        }

        /** How many of the lifted ones came, up to the first that the shelf does not take. */
        int setDown(int shelf, int j, int n) {
            for (int k = 0; k < n; k++) {
                if (!takes(shelf, lifted[k])) {
                    return k;
                }
                rows[shelf][j + k] = lifted[k];
            }
            return n;
        }
    }

    /** The tables: of each its rows, its columns' lanes, and its cells, kept as they tell. */
    private static final class Tables {
        private final int[] rowCounts = new int[MOST_TABLES];
        private final int[] columnCounts = new int[MOST_TABLES];
        private final int[] lanes = new int[MOST_TABLES * MOST_COLUMNS];
        private final long[][] cells = new long[MOST_TABLES][MOST_ROWS * MOST_COLUMNS];
        /** Of each row the columns whose cells are not blank. */
        private final long[][] filled = new long[MOST_TABLES][MOST_ROWS];
        private final int[] origins = new int[MOST_ROWS];
        private int size;

        void reset() {
            size = 0;
        }

        int size() {
            return size;
        }

        boolean has(int table) {
            return table >= 0 && table < size;
        }

        boolean areLanes(int digits, int columns) {
            int left = digits;
            for (int column = 0; column < columns; column++) {
                if (left < 0 || left % 10 > LANE_DOUBLES) {
                    return false;
                }
                left /= 10;
            }
            return left == 0;
        }

        int add(int rows, int columns, int digits) {
            rowCounts[size] = rows;
            columnCounts[size] = columns;
            int left = digits;
            for (int column = 0; column < columns; column++) {
                lanes[size * MOST_COLUMNS + column] = left % 10;
                left /= 10;
            }
            Arrays.fill(filled[size], 0);
            return size++;
        }

        boolean hasColumn(int table, int column) {
            return column >= 0 && column < columnCounts[table];
        }

        boolean hasCell(int table, int row, int column) {
            return row >= 0 && row < rowCounts[table] && hasColumn(table, column);
        }

        boolean isFilled(int table, int row, int column) {
            return hasBit(filled[table][row], column);
        }

        long cell(int table, int row, int column) {
            return cells[table][row * MOST_COLUMNS + column];
        }

        void keep(int table, int row, int column, long v) {
            cells[table][row * MOST_COLUMNS + column] = cellOf(lanes[table * MOST_COLUMNS + column], v);
            filled[table][row] |= bit(column);
        }

        void wipe(int table, int row, int column) {
            filled[table][row] &= ~bit(column);
        }

        int rowTelling(int table, int column, long v, int from) {
            for (int row = from; row < rowCounts[table]; row++) {
                if (isFilled(table, row, column) && cell(table, row, column) == v) {
                    return row;
                }
            }
            return NONE;
        }

        long sum(int table, int column) {
            long sum = 0;
            for (int row = 0; row < rowCounts[table]; row++) {
                if (isFilled(table, row, column)) {
                    sum += cell(table, row, column);
                }
            }
            return sum;
        }

        int countFilled(int table, int column) {
            int found = 0;
            for (int row = 0; row < rowCounts[table]; row++) {
                if (isFilled(table, row, column)) {
                    found++;
                }
            }
            return found;
        }

        /** Moves each row up past those that it must stand ahead of, which keeps alike ones as they were. */
        int order(int table, int column, boolean falling) {
            int rows = rowCounts[table];
            for (int row = 0; row < rows; row++) {
                origins[row] = row;
                for (int k = row; k > 0 && comesAhead(table, column, k, falling); k--) {
                    swapWithUpper(table, k);
                }
            }
            int moved = 0;
            for (int row = 0; row < rows; row++) {
                if (origins[row] != row) {
                    moved++;
                }
            }
            return moved;
        }

        /** Whether a row must stand ahead of the one above it. */
        private boolean comesAhead(int table, int column, int row, boolean falling) {
            if (!isFilled(table, row, column)) {
                return false;
            }
            if (!isFilled(table, row - 1, column)) {
                return true;
            }
            int compared = Long.compare(cell(table, row, column), cell(table, row - 1, column));
            return falling ? compared > 0 : compared < 0;
        }

        private void swapWithUpper(int table, int row) {
            int origin = origins[row];
            origins[row] = origins[row - 1];
            origins[row - 1] = origin;
            long bits = filled[table][row];
            filled[table][row] = filled[table][row - 1];
            filled[table][row - 1] = bits;
            for (int column = 0; column < columnCounts[table]; column++) {
                int at = row * MOST_COLUMNS + column;
                long cell = cells[table][at];
                cells[table][at] = cells[table][at - MOST_COLUMNS];
                cells[table][at - MOST_COLUMNS] = cell;
            }
        }
    }

    /** The words of the latest make(). */
    private static final class Words {
        private final int[] row = new int[MOST_WORDS];
        private int size;

        void reset() {
            size = 0;
        }

        int size() {
            return size;
        }

        void add(int word) {
            if (size < MOST_WORDS) {
                row[size++] = word;
            }
        }

        int at(int i) {
            return i >= 0 && i < size ? row[i] : NONE;
        }

        long fold() {
            long h = 17;
            for (int i = 0; i < size; i++) {
                h = 31 * h + row[i];
            }
            return h;
        }
    }
}
