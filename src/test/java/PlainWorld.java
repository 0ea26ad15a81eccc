import java.lang.reflect.Array;
import java.util.ArrayList;
import java.util.Comparator;
import java.util.List;
import java.util.Map;
import java.util.TreeMap;
import java.util.function.LongSupplier;

/**
 * The document once more, written down as plainly as can be: nothing is kept but what was told, and every answer is
 * found anew from that. Its rows are Java's own (boolean[] .. double[], rows of classes), and its FAULTS are what the
 * Java machine itself throws. So it has little in common with the program that it is held against.
 */
final class PlainWorld {
    private static final int UNKNOWN = -1, OUTSIDE = -2, STATE = -3, FULL = -4, NOWAY = -5, NONE = -9;
    private static final int PUT = 0, BAR = 1, GIVE = 2, AMONG = 3, PAIR = 4;
    private static final int MOST = 5, RELATE = 6, DENY = 7, EXIT = 8, DOOR = 9;

    // ---- the six sorts of things, as classes

    private static class Thing {
        final int number;
        final int kind;
        final int size;
        int mark;

        Thing(int number, int kind, int size) {
            this.number = number;
            this.kind = kind;
            this.size = size;
            mark = size;
        }
    }

    private static class Room extends Thing {
        Room(int number, int kind, int size) {
            super(number, kind, size);
        }
    }

    private static class Door extends Thing {
        int own;
        boolean open;

        Door(int number, int kind, int size) {
            super(number, kind, size);
            own = size;
        }
    }

    private static class Backdrop extends Thing {
        Backdrop(int number, int kind, int size) {
            super(number, kind, size);
        }
    }

    private static class Carrier extends Thing {
        int own;
        boolean open;

        Carrier(int number, int kind, int size) {
            super(number, kind, size);
            own = size;
        }
    }

    private static class Person extends Carrier {
        Person(int number, int kind, int size) {
            super(number, kind, size);
        }
    }

    private static final List<Class<? extends Thing>> CLASSES =
        List.of(Thing.class, Room.class, Door.class, Backdrop.class, Carrier.class, Person.class);

    // ---- what was told

    private record Sentence(int sort, long... n) {
        int at(int i) {
            return (int) n[i];
        }

        boolean is(int other, int... first) {
            boolean same = sort == other;
            for (int i = 0; i < first.length; i++) {
                same = same && n[i] == first[i];
            }
            return same;
        }
    }

    /** The usual ones are rows of one cell. */
    private record Property(int kind, int lane, Class<?> of, Object row, Map<Integer, Object> usual) {
    }

    private record Table(int rows, List<Integer> lanes, List<Map<Integer, Object>> columns) {
    }

    private record Exit(int sort, int to, int door, int teller) {
    }

    private List<Integer> parents = new ArrayList<>(List.of(NONE, 0, 0, 0, 0, 4));
    private List<Property> properties = new ArrayList<>();
    private List<Thing> things = new ArrayList<>();
    private List<Sentence> told = new ArrayList<>();
    private List<Integer> forms = new ArrayList<>();
    private List<Thing[]> shelves = new ArrayList<>();
    private List<Table> tables = new ArrayList<>();
    private List<Integer> words = new ArrayList<>();
    private int came = 0;
    private int fault = 0;

    int clear() {
        PlainWorld fresh = new PlainWorld();
        int were = things.size();
        parents = fresh.parents;
        properties = fresh.properties;
        things = fresh.things;
        told = fresh.told;
        forms = fresh.forms;
        shelves = fresh.shelves;
        tables = fresh.tables;
        words = fresh.words;
        came = fresh.came;
        fault = fresh.fault;
        return were;
    }

    // ---- what many calls use

    private long faulty(LongSupplier call) {
        try {
            return call.getAsLong();
        } catch (NullPointerException e) {
            fault = 1;
        } catch (IndexOutOfBoundsException e) {
            fault = 2;
        } catch (ClassCastException e) {
            fault = 3;
        } catch (ArrayStoreException e) {
            fault = 4;
        } catch (NegativeArraySizeException e) {
            fault = 5;
        } catch (ArithmeticException e) {
            fault = 6;
        }
        return -10 - fault;
    }

    private static boolean in(long i, List<?> list) {
        return 0 <= i && i < list.size();
    }

    private boolean isThing(long t) {
        return in(t, things);
    }

    private boolean isRoom(int t) {
        return isThing(t) && things.get(t) instanceof Room;
    }

    private boolean isHolder(int t) {
        return things.get(t) instanceof Room || things.get(t) instanceof Carrier;
    }

    private boolean isBackdrop(int t) {
        return things.get(t) instanceof Backdrop;
    }

    private boolean liesNowhere(int t) {
        return things.get(t) instanceof Room || things.get(t) instanceof Door;
    }

    private int tell(int sort, long... n) {
        told.add(new Sentence(sort, n));
        return told.size() - 1;
    }

    private int first(int sort, int... numbers) {
        for (int i = 0; i < told.size(); i++) {
            if (told.get(i).is(sort, numbers)) {
                return i;
            }
        }
        return NONE;
    }

    private int latest(int sort, int... numbers) {
        for (int i = told.size() - 1; i >= 0; i--) {
            if (told.get(i).is(sort, numbers)) {
                return i;
            }
        }
        return NONE;
    }

    // ---- kinds, properties

    int kind(int parent) {
        if (!in(parent, parents)) {
            return UNKNOWN;
        }
        if (parents.size() == 24) {
            return FULL;
        }
        parents.add(parent);
        return parents.size() - 1;
    }

    private boolean isKind(int kind, int other) {
        return kind == other || (kind != 0 && isKind(parents.get(kind), other));
    }

    int is(int kind, int other) {
        if (!in(kind, parents) || !in(other, parents)) {
            return UNKNOWN;
        }
        return isKind(kind, other) ? 1 : 0;
    }

    private int base(int kind) {
        return kind < 6 ? kind : base(parents.get(kind));
    }

    int property(int kind, int lane, int of) {
        if (!in(kind, parents) || (lane == 8 && !in(of, parents))) {
            return UNKNOWN;
        }
        if (lane < 0 || lane > 8) {
            return OUTSIDE;
        }
        if (properties.size() == 12) {
            return FULL;
        }
        Class<?> row = lane == 8 ? CLASSES.get(base(of)) : null;
        properties.add(new Property(kind, lane, row, row(lane, row, 64), new TreeMap<>()));
        return properties.size() - 1;
    }

    private static Object row(int lane, Class<?> of, int n) {
        return switch (lane) {
            case 0 -> new boolean[n];
            case 1 -> new byte[n];
            case 2 -> new short[n];
            case 3 -> new char[n];
            case 4 -> new int[n];
            case 5 -> new long[n];
            case 6 -> new float[n];
            case 7 -> new double[n];
            default -> Array.newInstance(of, n);
        };
    }

    private void store(Object row, int lane, int i, long v) {
        switch (lane) {
            case 0 -> ((boolean[]) row)[i] = v != 0;
            case 1 -> ((byte[]) row)[i] = (byte) v;
            case 2 -> ((short[]) row)[i] = (short) v;
            case 3 -> ((char[]) row)[i] = (char) v;
            case 4 -> ((int[]) row)[i] = (int) v;
            case 5 -> ((long[]) row)[i] = v;
            case 6 -> ((float[]) row)[i] = (float) v;
            case 7 -> ((double[]) row)[i] = (double) v;
            default -> ((Thing[]) row)[i] = v == NONE ? null : things.get((int) v);
        }
    }

    private static long load(Object row, int lane, int i) {
        return switch (lane) {
            case 0 -> ((boolean[]) row)[i] ? 1 : 0;
            case 1 -> ((byte[]) row)[i];
            case 2 -> ((short[]) row)[i];
            case 3 -> ((char[]) row)[i];
            case 4 -> ((int[]) row)[i];
            case 5 -> ((long[]) row)[i];
            case 6 -> (long) ((float[]) row)[i];
            case 7 -> (long) ((double[]) row)[i];
            default -> ((Thing[]) row)[i] == null ? NONE : ((Thing[]) row)[i].number;
        };
    }

    private boolean isValue(int property, long v) {
        return properties.get(property).lane != 8 || v == NONE || isThing(v);
    }

    private boolean isFor(int property, int kind) {
        return isKind(kind, properties.get(property).kind);
    }

    int usual(int kind, int property, long v) {
        if (!in(kind, parents) || !in(property, properties) || !isValue(property, v)) {
            return UNKNOWN;
        }
        if (!isFor(property, kind)) {
            return STATE;
        }
        Property p = properties.get(property);
        Object cell = row(p.lane, p.of, 1);
        return (int) faulty(() -> {
            store(cell, p.lane, 0, v);
            p.usual.put(kind, cell);
            return 1;
        });
    }

    // ---- things

    int thing(int kind, int size) {
        if (!in(kind, parents)) {
            return UNKNOWN;
        }
        if (size < 0 || size > 1000) {
            return OUTSIDE;
        }
        int number = things.size();
        if (number == 64) {
            return FULL;
        }
        things.add(switch (base(kind)) {
            case 0 -> new Thing(number, kind, size);
            case 1 -> new Room(number, kind, size);
            case 2 -> new Door(number, kind, size);
            case 3 -> new Backdrop(number, kind, size);
            case 4 -> new Carrier(number, kind, size);
            default -> new Person(number, kind, size);
        });
        return number;
    }

    private List<Integer> homes(int thing) {
        List<Integer> homes = new ArrayList<>();
        for (Sentence s : told) {
            if (s.is(PUT, thing)) {
                homes.add(s.at(1));
            }
        }
        return homes;
    }

    private boolean wasPut(int thing) {
        return first(PUT, thing) != NONE;
    }

    /** Whether one is the other, or lies in it, or in what lies in it, and so on. */
    private boolean isWithin(int one, int other) {
        boolean within = one == other;
        for (int home : homes(one)) {
            within = within || isWithin(home, other);
        }
        return within;
    }

    private int countIn(int where) {
        int found = 0;
        for (Sentence s : told) {
            found += s.sort == PUT && s.at(1) == where && !isBackdrop(s.at(0)) ? 1 : 0;
        }
        return found;
    }

    int put(int thing, int where) {
        if (!isThing(thing) || !isThing(where)) {
            return UNKNOWN;
        }
        boolean backdrop = isBackdrop(thing);
        if (liesNowhere(thing) || (backdrop ? !isRoom(where) : !isHolder(where)) || isWithin(where, thing)
            || homes(thing).contains(where)) {
            return STATE;
        }
        if (told.size() == 300 || (backdrop && homes(thing).size() == 6)) {
            return FULL;
        }
        if (!backdrop && wasPut(thing)) {
            return -100 - first(PUT, thing);
        }
        if (first(BAR, thing, where) != NONE) {
            return -100 - first(BAR, thing, where);
        }
        if (first(AMONG, thing) != NONE && (set(thing) >> where & 1) == 0) {
            return -100 - latest(AMONG, thing);
        }
        int most = first(MOST, where);
        if (!backdrop && most != NONE && countIn(where) >= told.get(most).at(1)) {
            return -100 - most;
        }
        for (int i = 0; i < told.size(); i++) {
            Sentence s = told.get(i);
            if (s.is(PAIR) && (s.at(0) == thing || s.at(1) == thing)) {
                int other = s.at(0) == thing ? s.at(1) : s.at(0);
                if (wasPut(other) && homes(other).contains(where) != (s.at(2) == 1)) {
                    return -100 - i;
                }
            }
        }
        return tell(PUT, thing, where);
    }

    int bar(int thing, int where) {
        if (!isThing(thing) || !isThing(where)) {
            return UNKNOWN;
        }
        if (liesNowhere(thing) || !isHolder(where)) {
            return STATE;
        }
        if (told.size() == 300) {
            return FULL;
        }
        if (first(PUT, thing, where) != NONE) {
            return -100 - first(PUT, thing, where);
        }
        if (first(AMONG, thing) != NONE && (set(thing) & ~(1L << where)) == 0) {
            return -100 - latest(AMONG, thing);
        }
        return tell(BAR, thing, where);
    }

    int give(int thing, int property, long v) {
        if (!isThing(thing) || !in(property, properties) || !isValue(property, v)) {
            return UNKNOWN;
        }
        if (!isFor(property, things.get(thing).kind)) {
            return STATE;
        }
        if (told.size() == 300) {
            return FULL;
        }
        Property p = properties.get(property);
        Object cell = row(p.lane, p.of, 1);
        long stored = faulty(() -> {
            store(cell, p.lane, 0, v);
            return 0;
        });
        if (stored < 0) {
            return (int) stored;
        }
        int earlier = latest(GIVE, thing, property);
        if (earlier != NONE && load(p.row, p.lane, thing) != load(cell, p.lane, 0)) {
            return -100 - earlier;
        }
        store(p.row, p.lane, thing, v);
        return tell(GIVE, thing, property, v);
    }

    long value(int thing, int property) {
        if (!isThing(thing) || !in(property, properties)) {
            return UNKNOWN;
        }
        return isFor(property, things.get(thing).kind) ? whatItHas(thing, property) : STATE;
    }

    private long whatItHas(int thing, int property) {
        Property p = properties.get(property);
        if (first(GIVE, thing, property) != NONE) {
            return load(p.row, p.lane, thing);
        }
        for (int kind = things.get(thing).kind; kind != NONE; kind = parents.get(kind)) {
            if (p.usual.containsKey(kind)) {
                return load(p.usual.get(kind), p.lane, 0);
            }
        }
        return p.lane == 8 ? NONE : 0;
    }

    int given(int thing, int property) {
        return isThing(thing) && in(property, properties) ? latest(GIVE, thing, property) : UNKNOWN;
    }

    long peek(int property, int lane, int i) {
        if (!in(property, properties)) {
            return UNKNOWN;
        }
        return lane < 0 || lane > 8 ? OUTSIDE : faulty(() -> load(properties.get(property).row, lane, i));
    }

    int place(int thing, int k) {
        if (!isThing(thing)) {
            return UNKNOWN;
        }
        return in(k, homes(thing)) ? homes(thing).get(k) : NONE;
    }

    private int bulk(Thing t) {
        if (t instanceof Room) {
            return load(t);
        }
        if (t instanceof Door) {
            return 2 * t.size;
        }
        if (t instanceof Backdrop) {
            return 0;
        }
        if (t instanceof Carrier) {
            return t.size + load(t) + (t instanceof Person ? 10 : 0);
        }
        return t.size;
    }

    private int load(Thing holder) {
        int load = 0;
        for (Sentence s : told) {
            load += s.sort == PUT && s.at(1) == holder.number ? bulk(things.get(s.at(0))) : 0;
        }
        return load;
    }

    private static int worth(Thing t) {
        int plain = 3 * t.size + 1;
        return t instanceof Door ? plain + 100
            : t instanceof Person ? 2 * plain
            : t instanceof Backdrop ? -plain
            : t instanceof Room ? plain + 1000 : plain;
    }

    private static int lid(Thing t) {
        if (t instanceof Door door) {
            return 10 * door.own + (door.open ? 1 : 0);
        }
        return ((Carrier) t).own + (((Carrier) t).open ? 1000 : 0);
    }

    private int loadOfHolder(Thing t) {
        return load(t instanceof Room ? t : (Carrier) t);
    }

    private int saying(Thing t, int what) {
        return (int) faulty(() -> switch (what) {
            case 0 -> bulk(t);
            case 1 -> worth(t);
            case 2 -> loadOfHolder(t);
            case 3 -> lid(t);
            default -> 1000 / load((Person) t);
        });
    }

    int says(int thing, int what) {
        if (!isThing(thing)) {
            return UNKNOWN;
        }
        return what < 0 || what > 4 ? OUTSIDE : saying(things.get(thing), what);
    }

    int follow(int thing, int property, int what) {
        if (!isThing(thing) || !in(property, properties)) {
            return UNKNOWN;
        }
        if (what < 0 || what > 4) {
            return OUTSIDE;
        }
        if (!isFor(property, things.get(thing).kind)) {
            return STATE;
        }
        return (int) faulty(() -> {
            Thing[] row = (Thing[]) properties.get(property).row;
            int other = (int) whatItHas(thing, property);
            Thing found = row.length == 64 && other != NONE ? things.get(other) : null;
            return saying(things.get(found.number), what);
        });
    }

    int mark(int thing, int how) {
        if (!isThing(thing)) {
            return UNKNOWN;
        }
        if (how < 0 || how > 1) {
            return OUTSIDE;
        }
        Thing t = things.get(thing);
        return how == 0 ? t.mark : (int) faulty(() -> t instanceof Door door ? door.own : ((Carrier) t).own);
    }

    int remark(int thing, int how, int v) {
        if (!isThing(thing)) {
            return UNKNOWN;
        }
        if (how < 0 || how > 1 || v < 0 || v > 1000) {
            return OUTSIDE;
        }
        int was = mark(thing, how);
        Thing t = things.get(thing);
        if (how == 0) {
            t.mark = v;
        } else if (t instanceof Door door) {
            door.own = v;
        } else if (t instanceof Carrier carrier) {
            carrier.own = v;
        }
        return was;
    }

    int open(int thing, boolean is) {
        if (!isThing(thing)) {
            return UNKNOWN;
        }
        return (int) faulty(() -> {
            boolean was;
            if (things.get(thing) instanceof Door door) {
                was = door.open;
                door.open = is;
            } else {
                Carrier carrier = (Carrier) things.get(thing);
                was = carrier.open;
                carrier.open = is;
            }
            return was ? 1 : 0;
        });
    }

    // ---- places that are not sure

    int among(int thing, long set) {
        if (!isThing(thing)) {
            return UNKNOWN;
        }
        boolean odd = liesNowhere(thing) || isBackdrop(thing);
        for (int k = 0; k < 64; k++) {
            if ((set >> k & 1) == 1) {
                if (!isThing(k)) {
                    return UNKNOWN;
                }
                odd = odd || k == thing || !isHolder(k);
            }
        }
        if (set == 0) {
            return OUTSIDE;
        }
        if (odd) {
            return STATE;
        }
        if (told.size() == 300) {
            return FULL;
        }
        if (wasPut(thing) && (set >> homes(thing).get(0) & 1) == 0) {
            return -100 - first(PUT, thing);
        }
        if (first(AMONG, thing) != NONE && (set(thing) & set) == 0) {
            return -100 - latest(AMONG, thing);
        }
        long left = set;
        int bar = NONE;
        for (int i = told.size() - 1; i >= 0; i--) {
            Sentence s = told.get(i);
            if (s.is(BAR, thing) && (set >> s.at(1) & 1) == 1) {
                left &= ~(1L << s.at(1));
                bar = i;
            }
        }
        return left == 0 ? -100 - bar : tell(AMONG, thing, set);
    }

    int pair(int one, int other, boolean alike) {
        if (!isThing(one) || !isThing(other)) {
            return UNKNOWN;
        }
        if (one == other || liesNowhere(one) || liesNowhere(other) || isBackdrop(one) || isBackdrop(other)) {
            return STATE;
        }
        if (told.size() == 300 || count(9) == 16) {
            return FULL;
        }
        for (int i = 0; i < told.size(); i++) {
            Sentence s = told.get(i);
            if ((s.is(PAIR, one, other) || s.is(PAIR, other, one)) && (s.at(2) == 1) != alike) {
                return -100 - i;
            }
        }
        if (wasPut(one) && wasPut(other) && homes(one).equals(homes(other)) != alike) {
            return -100 - Math.max(first(PUT, one), first(PUT, other));
        }
        return tell(PAIR, one, other, alike ? 1 : 0);
    }

    int most(int where, int n) {
        if (!isThing(where)) {
            return UNKNOWN;
        }
        if (n < 0 || n > 64) {
            return OUTSIDE;
        }
        if (!isHolder(where) || first(MOST, where) != NONE) {
            return STATE;
        }
        if (told.size() == 300) {
            return FULL;
        }
        List<Integer> puts = new ArrayList<>();
        for (int i = 0; i < told.size(); i++) {
            Sentence s = told.get(i);
            if (s.sort == PUT && s.at(1) == where && !isBackdrop(s.at(0))) {
                puts.add(i);
            }
        }
        return puts.size() > n ? -100 - puts.get(n) : tell(MOST, where, n);
    }

    private List<Integer> unsettled() {
        List<Integer> found = new ArrayList<>();
        for (int t = 0; t < things.size(); t++) {
            if (first(AMONG, t) != NONE && !wasPut(t)) {
                found.add(t);
            }
        }
        return found;
    }

    private List<Integer> holdersOf(int thing) {
        List<Integer> found = new ArrayList<>();
        for (int k = 0; k < 64; k++) {
            if ((set(thing) >> k & 1) == 1) {
                found.add(k);
            }
        }
        return found;
    }

    /** Tries all ways from the least on: the last thing's holder changes first, as the last digit of a number does. */
    int settle() {
        List<Integer> unsettled = unsettled();
        List<List<Integer>> sets = new ArrayList<>();
        long ways = 1;
        for (int t : unsettled) {
            sets.add(holdersOf(t));
            ways = Math.min(1_000_000, ways * holdersOf(t).size());
        }
        if (unsettled.size() > 7 || ways > 3000) {
            return STATE;
        }
        if (told.size() + unsettled.size() > 300) {
            return FULL;
        }
        for (long way = 0; way < ways; way++) {
            int[] homes = new int[things.size()];
            for (int t = 0; t < homes.length; t++) {
                homes[t] = place(t, 0);
            }
            long left = way;
            for (int k = sets.size() - 1; k >= 0; k--) {
                homes[unsettled.get(k)] = sets.get(k).get((int) (left % sets.get(k).size()));
                left /= sets.get(k).size();
            }
            if (isWay(homes)) {
                for (int t : unsettled) {
                    tell(PUT, t, homes[t]);
                }
                return unsettled.size();
            }
        }
        return NOWAY;
    }

    private boolean isWay(int[] homes) {
        int[] held = new int[homes.length];
        for (int t = 0; t < homes.length; t++) {
            int at = homes[t];
            for (int steps = 0; at != NONE; steps++) {
                if (at == t || steps > 64) {
                    return false;
                }
                at = homes[at];
            }
            if (homes[t] != NONE && !isBackdrop(t)) {
                held[homes[t]]++;
            }
        }
        for (Sentence s : told) {
            if (s.is(MOST) && held[s.at(0)] > s.at(1)) {
                return false;
            }
            if (s.is(PAIR) && homes[s.at(0)] != NONE && homes[s.at(1)] != NONE
                && (homes[s.at(0)] == homes[s.at(1)]) != (s.at(2) == 1)) {
                return false;
            }
        }
        return true;
    }

    long set(int thing) {
        if (!isThing(thing) || first(AMONG, thing) == NONE) {
            return 0;
        }
        long set = -1;
        for (Sentence s : told) {
            set &= s.is(AMONG, thing) ? s.n[1] : s.is(BAR, thing) ? ~(1L << s.at(1)) : -1;
        }
        return set;
    }

    // ---- relations

    int relation(int form) {
        if (form < 0 || form > 5) {
            return OUTSIDE;
        }
        if (forms.size() == 8) {
            return FULL;
        }
        forms.add(form);
        return forms.size() - 1;
    }

    private boolean has(int relation, int a, int b) {
        return has(relation, a, b, told.size());
    }

    /** Whether a has b by the first n sentences. */
    private boolean has(int relation, int a, int b, int n) {
        if (forms.get(relation) == 5) {
            return group(relation, a, n).contains(b);
        }
        boolean found = false;
        for (Sentence s : told.subList(0, n)) {
            found = found || s.is(RELATE, relation, a, b)
                || (forms.get(relation) == 4 && s.is(RELATE, relation, b, a));
        }
        return found;
    }

    private List<Integer> group(int relation, int a, int n) {
        List<Integer> group = new ArrayList<>(List.of(a));
        for (int k = 0; k < group.size(); k++) {
            for (Sentence s : told.subList(0, n)) {
                if (s.is(RELATE, relation) && (s.at(1) == group.get(k) || s.at(2) == group.get(k))) {
                    int other = s.at(1) == group.get(k) ? s.at(2) : s.at(1);
                    if (!group.contains(other)) {
                        group.add(other);
                    }
                }
            }
        }
        return group;
    }

    private boolean canAsk(int relation, int a, int b) {
        return in(relation, forms) && isThing(a) && isThing(b);
    }

    int relate(int relation, int a, int b) {
        if (!canAsk(relation, a, b)) {
            return UNKNOWN;
        }
        if (a == b || has(relation, a, b)) {
            return STATE;
        }
        if (told.size() == 300) {
            return FULL;
        }
        int form = forms.get(relation);
        List<Integer> as = form == 5 ? group(relation, a, told.size()) : List.of(a);
        List<Integer> bs = form == 5 ? group(relation, b, told.size()) : List.of(b);
        for (int i = 0; i < told.size(); i++) {
            Sentence s = told.get(i);
            if (s.is(DENY, relation) && ((as.contains(s.at(1)) && bs.contains(s.at(2)))
                || (form >= 4 && as.contains(s.at(2)) && bs.contains(s.at(1))))) {
                return -100 - i;
            }
        }
        for (int i = 0; i < told.size(); i++) {
            if ((form == 0 || form == 2) && told.get(i).is(RELATE, relation, a)) {
                return -100 - i;
            }
        }
        for (int i = 0; i < told.size(); i++) {
            if ((form == 0 || form == 1) && told.get(i).is(RELATE, relation) && told.get(i).at(2) == b) {
                return -100 - i;
            }
        }
        return tell(RELATE, relation, a, b);
    }

    int deny(int relation, int a, int b) {
        if (!canAsk(relation, a, b)) {
            return UNKNOWN;
        }
        if (a == b || first(DENY, relation, a, b) != NONE) {
            return STATE;
        }
        if (told.size() == 300) {
            return FULL;
        }
        for (int n = 0; n < told.size(); n++) {
            if (told.get(n).is(RELATE, relation) && has(relation, a, b, n + 1)) {
                return -100 - n;
            }
        }
        return tell(DENY, relation, a, b);
    }

    int related(int relation, int a, int b) {
        return !canAsk(relation, a, b) ? UNKNOWN : has(relation, a, b) ? 1 : 0;
    }

    /** Steps of the shortest way, by going one step further each time. */
    int along(int relation, int a, int b) {
        if (!canAsk(relation, a, b)) {
            return UNKNOWN;
        }
        List<Integer> reached = new ArrayList<>(List.of(a));
        int from = 0;
        for (int steps = 0; steps < 64; steps++) {
            if (reached.contains(b)) {
                return steps;
            }
            int to = reached.size();
            for (; from < to; from++) {
                for (int x = 0; x < things.size(); x++) {
                    if (!reached.contains(x) && has(relation, reached.get(from), x)) {
                        reached.add(x);
                    }
                }
            }
        }
        return NONE;
    }

    int next(int relation, int a, int b) {
        if (!canAsk(relation, a, b)) {
            return UNKNOWN;
        }
        int steps = along(relation, a, b);
        for (int x = 0; x < things.size() && steps > 0; x++) {
            if (has(relation, a, x) && along(relation, x, b) == steps - 1) {
                return x;
            }
        }
        return NONE;
    }

    // ---- the map

    /** All exits by 8 room + d, as the sentences tell them one by one. */
    private Map<Integer, Exit> exits() {
        Map<Integer, Exit> exits = new TreeMap<>();
        for (int i = 0; i < told.size(); i++) {
            Sentence s = told.get(i);
            if (s.is(EXIT)) {
                exits.put(8 * s.at(0) + s.at(1), new Exit(s.at(2) == NONE ? 4 : 2, s.at(2), NONE, i));
                if (s.at(2) != NONE) {
                    exits.putIfAbsent(8 * s.at(2) + opposite(s.at(1)), new Exit(1, s.at(0), NONE, NONE));
                }
            }
            if (s.is(DOOR)) {
                exits.put(8 * s.at(1) + s.at(2), new Exit(3, s.at(3), s.at(0), i));
                exits.put(8 * s.at(3) + opposite(s.at(2)), new Exit(3, s.at(1), s.at(0), i));
            }
        }
        return exits;
    }

    private static int opposite(int d) {
        return d % 2 == 1 ? d - 1 : d + 1;
    }

    private Exit exitAt(int room, int d) {
        return exits().getOrDefault(8 * room + d, new Exit(0, NONE, NONE, NONE));
    }

    int exit(int room, int d, int to) {
        if (!isRoom(room) || (to != NONE && !isRoom(to))) {
            return UNKNOWN;
        }
        if (d < 0 || d > 7) {
            return OUTSIDE;
        }
        Exit there = exitAt(room, d);
        if ((there.sort == 2 || there.sort == 4) && there.to == to) {
            return STATE;
        }
        if (told.size() == 300) {
            return FULL;
        }
        return there.teller != NONE ? -100 - there.teller : tell(EXIT, room, d, to);
    }

    int door(int door, int a, int d, int b) {
        if (!isThing(door) || !isRoom(a) || !isRoom(b)) {
            return UNKNOWN;
        }
        if (d < 0 || d > 7) {
            return OUTSIDE;
        }
        if (!(things.get(door) instanceof Door) || a == b) {
            return STATE;
        }
        if (told.size() == 300) {
            return FULL;
        }
        for (int i : new int[] {first(DOOR, door), exitAt(a, d).teller, exitAt(b, opposite(d)).teller}) {
            if (i != NONE) {
                return -100 - i;
            }
        }
        return tell(DOOR, door, a, d, b);
    }

    int leads(int room, int d) {
        return !isRoom(room) ? UNKNOWN : d < 0 || d > 7 ? OUTSIDE : exitAt(room, d).to;
    }

    int sort(int room, int d) {
        return !isRoom(room) ? UNKNOWN : d < 0 || d > 7 ? OUTSIDE : exitAt(room, d).sort;
    }

    private List<Integer> roomsBehind(Map<Integer, Exit> exits, int room, boolean any) {
        List<Integer> rooms = new ArrayList<>();
        for (int d = 0; d < 8; d++) {
            Exit exit = exits.getOrDefault(8 * room + d, new Exit(0, NONE, NONE, NONE));
            boolean barred = exit.sort == 3 && !any && !((Door) things.get(exit.door)).open;
            rooms.add(barred ? NONE : exit.to);
        }
        return rooms;
    }

    int route(int a, int b, boolean any) {
        if (!isRoom(a) || !isRoom(b)) {
            return UNKNOWN;
        }
        Map<Integer, Exit> exits = exits();
        List<Integer> rooms = new ArrayList<>(List.of(a));
        List<Integer> steps = new ArrayList<>(List.of(0));
        for (int k = 0; k < rooms.size(); k++) {
            if (rooms.get(k) == b) {
                return steps.get(k);
            }
            for (int to : roomsBehind(exits, rooms.get(k), any)) {
                if (to != NONE && !rooms.contains(to)) {
                    rooms.add(to);
                    steps.add(steps.get(k) + 1);
                }
            }
        }
        return NONE;
    }

    int first(int a, int b, boolean any) {
        if (!isRoom(a) || !isRoom(b)) {
            return UNKNOWN;
        }
        int steps = route(a, b, any);
        for (int d = 0; d < 8 && steps > 0; d++) {
            int to = roomsBehind(exits(), a, any).get(d);
            if (to != NONE && route(to, b, any) == steps - 1) {
                return d;
            }
        }
        return NONE;
    }

    // ---- shelves

    int shelf(int kind, int n) {
        if (!in(kind, parents)) {
            return UNKNOWN;
        }
        if (n > 16) {
            return OUTSIDE;
        }
        if (shelves.size() == 10) {
            return FULL;
        }
        return (int) faulty(() -> {
            shelves.add((Thing[]) Array.newInstance(CLASSES.get(base(kind)), n));
            return shelves.size() - 1;
        });
    }

    int stand(int shelf, int i, int thing) {
        if (!in(shelf, shelves) || (thing != NONE && !isThing(thing))) {
            return UNKNOWN;
        }
        return (int) faulty(() -> {
            shelves.get(shelf)[i] = thing == NONE ? null : things.get(thing);
            return 1;
        });
    }

    int stands(int shelf, int i) {
        return in(shelf, shelves) ? (int) faulty(() -> load(shelves.get(shelf), 8, i)) : UNKNOWN;
    }

    int haul(int from, int i, int to, int j, int n) {
        if (!in(from, shelves) || !in(to, shelves)) {
            return UNKNOWN;
        }
        Thing[] source = shelves.get(from).clone();
        Thing[] target = shelves.get(to);
        return (int) faulty(() -> {
            System.arraycopy(new int[source.length], i, new int[target.length], j, n);
            for (came = 0; came < n; came++) {
                target[j + came] = source[i + came];
            }
            return n;
        });
    }

    int came() {
        return came;
    }

    // ---- tables

    int table(int rows, int columns, int lanes) {
        if (rows < 1 || rows > 16 || columns < 1 || columns > 5 || lanes < 0) {
            return OUTSIDE;
        }
        String digits = String.valueOf(lanes);
        if (digits.length() > columns || !digits.matches("[0-7]+")) {
            return OUTSIDE;
        }
        if (tables.size() == 6) {
            return FULL;
        }
        digits = "0".repeat(columns - digits.length()) + digits;
        Table table = new Table(rows, new ArrayList<>(), new ArrayList<>());
        for (int column = 0; column < columns; column++) {
            table.lanes.add(digits.charAt(columns - 1 - column) - '0');
            table.columns.add(new TreeMap<>());
        }
        tables.add(table);
        return tables.size() - 1;
    }

    /** The column's cells that are not blank; a column, a row that is not there is the machine's own fault. */
    private Map<Integer, Object> cells(int table, int row, int column) {
        boolean[] there = new boolean[tables.get(table).rows];
        there[row] = true;
        return tables.get(table).columns.get(column);
    }

    int fill(int table, int row, int column, long v) {
        if (!in(table, tables)) {
            return UNKNOWN;
        }
        return (int) faulty(() -> {
            Map<Integer, Object> cells = cells(table, row, column);
            int lane = tables.get(table).lanes.get(column);
            Object cell = row(lane, null, 1);
            store(cell, lane, 0, v);
            cells.put(row, cell);
            return 1;
        });
    }

    int blank(int table, int row, int column) {
        if (!in(table, tables)) {
            return UNKNOWN;
        }
        return (int) faulty(() -> cells(table, row, column).remove(row) != null ? 1 : 0);
    }

    long read(int table, int row, int column) {
        if (!in(table, tables)) {
            return UNKNOWN;
        }
        return faulty(() -> {
            Object cell = cells(table, row, column).get(row);
            cell.getClass();
            return load(cell, tables.get(table).lanes.get(column), 0);
        });
    }

    int choose(int table, int column, long v, int from) {
        if (!in(table, tables)) {
            return UNKNOWN;
        }
        if (from < 0 || from > 15) {
            return OUTSIDE;
        }
        return (int) faulty(() -> {
            int lane = tables.get(table).lanes.get(column);
            for (Map.Entry<Integer, Object> cell : tables.get(table).columns.get(column).entrySet()) {
                if (cell.getKey() >= from && load(cell.getValue(), lane, 0) == v) {
                    return cell.getKey();
                }
            }
            return NONE;
        });
    }

    private static Comparator<Object> rising(int lane) {
        return switch (lane) {
            case 0 -> Comparator.comparing(cell -> ((boolean[]) cell)[0]);
            case 1 -> Comparator.comparing(cell -> ((byte[]) cell)[0]);
            case 2 -> Comparator.comparing(cell -> ((short[]) cell)[0]);
            case 3 -> Comparator.comparing(cell -> ((char[]) cell)[0]);
            case 4 -> Comparator.comparing(cell -> ((int[]) cell)[0]);
            case 5 -> Comparator.comparing(cell -> ((long[]) cell)[0]);
            case 6 -> Comparator.comparing(cell -> ((float[]) cell)[0]);
            default -> Comparator.comparing(cell -> ((double[]) cell)[0]);
        };
    }

    int rank(int table, int column, boolean falling) {
        if (!in(table, tables)) {
            return UNKNOWN;
        }
        return (int) faulty(() -> {
            Table t = tables.get(table);
            Map<Integer, Object> by = t.columns.get(column);
            Comparator<Object> order = falling ? rising(t.lanes.get(column)).reversed() : rising(t.lanes.get(column));
            List<Integer> rows = new ArrayList<>();
            for (int row = 0; row < t.rows; row++) {
                rows.add(row);
            }
            rows.sort(Comparator.comparing(by::get, Comparator.nullsLast(order)));
            int elsewhere = 0;
            for (int row = 0; row < t.rows; row++) {
                elsewhere += rows.get(row) == row ? 0 : 1;
            }
            for (int c = 0; c < t.columns.size(); c++) {
                Map<Integer, Object> moved = new TreeMap<>();
                for (int row = 0; row < t.rows; row++) {
                    if (t.columns.get(c).containsKey(rows.get(row))) {
                        moved.put(row, t.columns.get(c).get(rows.get(row)));
                    }
                }
                t.columns.set(c, moved);
            }
            return elsewhere;
        });
    }

    private long sum(Table t, int column) {
        long sum = 0;
        for (Object cell : t.columns.get(column).values()) {
            sum += load(cell, t.lanes.get(column), 0);
        }
        return sum;
    }

    long total(int table, int column) {
        return in(table, tables) ? faulty(() -> sum(tables.get(table), column)) : UNKNOWN;
    }

    long mean(int table, int column) {
        if (!in(table, tables)) {
            return UNKNOWN;
        }
        return faulty(() -> sum(tables.get(table), column) / tables.get(table).columns.get(column).size());
    }

    // ---- all of it

    int make() {
        boolean room = false;
        for (Thing t : things) {
            room = room || t instanceof Room;
        }
        if (!room || !unsettled().isEmpty()) {
            return STATE;
        }
        words = new ArrayList<>(List.of(parents.size(), things.size()));
        for (Thing t : things) {
            words.addAll(List.of(t.kind, place(t.number, 0), t.size));
            for (int p = 0; p < properties.size(); p++) {
                if (isFor(p, t.kind)) {
                    words.add((int) whatItHas(t.number, p));
                }
            }
        }
        for (Thing t : things) {
            for (int d = 0; d < 8 && t instanceof Room; d++) {
                words.add(exitAt(t.number, d).to);
            }
        }
        for (int r = 0; r < forms.size(); r++) {
            int couples = 0;
            for (int a = 0; a < things.size(); a++) {
                for (int b = 0; b < things.size(); b++) {
                    couples += a != b && has(r, a, b) ? 1 : 0;
                }
            }
            words.addAll(List.of(forms.get(r), couples));
        }
        return words.size();
    }

    int word(int i) {
        return in(i, words) ? words.get(i) : NONE;
    }

    long digest() {
        long h = 17;
        for (int word : words) {
            h = 31 * h + word;
        }
        return h;
    }

    int sentence(int i, int what) {
        if (!in(i, told)) {
            return UNKNOWN;
        }
        return what < 0 || what > 2 ? OUTSIDE : what == 0 ? told.get(i).sort : told.get(i).at(what - 1);
    }

    int count(int what) {
        int pairs = 0;
        for (Sentence s : told) {
            pairs += s.is(PAIR) ? 1 : 0;
        }
        return switch (what) {
            case 0 -> parents.size();
            case 1 -> properties.size();
            case 2 -> things.size();
            case 3 -> told.size();
            case 4 -> forms.size();
            case 5 -> shelves.size();
            case 6 -> tables.size();
            case 7 -> unsettled().size();
            case 8 -> words.size();
            case 9 -> pairs;
            default -> OUTSIDE;
        };
    }

    int fault() {
        return fault;
    }
}
