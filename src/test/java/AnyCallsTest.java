import java.util.ArrayList;
import java.util.Arrays;
import java.util.List;

/**
 * Any calls, right and wrong, in any order: none throws; a cleared object answers as a new one does; what was refused
 * or went against a sentence has changed nothing; ways, routes and settled places are those that trying all finds.
 * The calls come from fixed rows of numbers, so every run is the same.
 */
public final class AnyCallsTest {
    private static final int WORLDS = 500, CALLS = 511;
    private static final int UNKNOWN = -1, NOWAY = -5, NONE = -9;
    private static final Due due = new Due("AnyCallsTest");

    public static void main(String[] args) {
        for (int world = 0; world < WORLDS; world++) {
            run(world);
        }
        due.end();
    }

    private static void run(int number) {
        CallMaker maker = new CallMaker(number);
        WorldMake all = new WorldMake();
        WorldMake cleared = usedAndCleared(number);
        WorldMake accepted = new WorldMake();
        List<Call> told = new ArrayList<>();
        for (int i = 0; i < CALLS; i++) {
            Call call = i < 6 + number % 20 ? maker.firstThing(i) : maker.next(all);
            int[] way = call.is("settle") ? leastWay(all, told) : null;
            long answer = call.on(all);
            maker.heard(call, answer);
            String name = "world " + number + ", call " + i + " " + call;
            due.is(name + " when cleared", call.on(cleared), answer);
            if (way != null) {
                checkSettled(name, all, way, answer);
            }
            if (call.is("clear")) {
                told.clear();
            }
            if (!wasRefused(call, answer)) {
                due.is(name + " without what was refused", call.on(accepted), answer);
                told.add(call);
            }
        }
        checkWays(number, all, told);
        checkAlike(number, all, accepted);
    }

    private static WorldMake usedAndCleared(int number) {
        CallMaker maker = new CallMaker(-1 - number);
        WorldMake w = new WorldMake();
        for (int i = 0; i < 200; i++) {
            Call call = i < 14 ? maker.firstThing(i) : maker.next(w);
            maker.heard(call, call.on(w));
        }
        w.clear();
        return w;
    }

    /** Whether a call that would change something did not (a fault is not meant: it changes fault()). */
    private static boolean wasRefused(Call call, long answer) {
        return !call.reads() && (answer <= -100 || (answer < 0 && answer >= NOWAY));
    }

    // ---- settled places

    /** Where each thing lies by the least way: null if settle() refuses ahead of it, none if there is no way. */
    private static int[] leastWay(WorldMake w, List<Call> told) {
        int things = w.count(2);
        int[] homes = new int[things];
        List<Integer> unsettled = new ArrayList<>();
        double ways = 1;
        for (int t = 0; t < things; t++) {
            homes[t] = w.place(t, 0);
            if (w.set(t) != 0 && homes[t] == NONE) {
                unsettled.add(t);
                ways *= Long.bitCount(w.set(t));
            }
        }
        if (unsettled.size() > 7 || ways > 3000 || w.count(3) + unsettled.size() > 300) {
            return null;
        }
        return tryAll(w, told, homes, unsettled, 0) ? homes : new int[0];
    }

    private static boolean tryAll(WorldMake w, List<Call> told, int[] homes, List<Integer> unsettled, int k) {
        if (k == unsettled.size()) {
            return isWay(w, told, homes);
        }
        int t = unsettled.get(k);
        for (int where = 0; where < homes.length; where++) {
            if ((w.set(t) >>> where & 1) != 0) {
                homes[t] = where;
                if (tryAll(w, told, homes, unsettled, k + 1)) {
                    return true;
                }
            }
        }
        return false;
    }

    private static boolean isWay(WorldMake w, List<Call> told, int[] homes) {
        for (int t = 0; t < homes.length; t++) {
            int at = homes[t];
            for (int steps = 0; at != NONE; steps++) {
                if (steps > homes.length) {
                    return false;
                }
                at = homes[at];
            }
        }
        for (Call x : told) {
            if (x.is("most") && countIn(w, homes, x.at(0)) > x.at(1)) {
                return false;
            }
            if (x.is("pair") && homes[x.at(0)] != NONE && homes[x.at(1)] != NONE
                && (homes[x.at(0)] == homes[x.at(1)]) != x.truth(2)) {
                return false;
            }
        }
        return true;
    }

    private static int countIn(WorldMake w, int[] homes, int where) {
        int found = 0;
        for (int t = 0; t < homes.length; t++) {
            found += homes[t] == where && !isBackdrop(w, t) ? 1 : 0;
        }
        return found;
    }

    /** Of all things only the worth of a backdrop is below 0. */
    private static boolean isBackdrop(WorldMake w, int thing) {
        return w.says(thing, 1) < 0;
    }

    private static void checkSettled(String name, WorldMake w, int[] way, long answer) {
        if (way.length == 0 && w.count(2) > 0) {
            due.is(name + ": there is no way", answer, NOWAY);
            return;
        }
        due.holds(name + ": there is a way", answer >= 0);
        for (int t = 0; t < way.length; t++) {
            due.is(name + ": place of " + t, w.place(t, 0), way[t]);
        }
    }

    // ---- ways along relations, and routes

    private static void checkWays(int number, WorldMake w, List<Call> told) {
        int things = w.count(2);
        for (int relation = 0; relation < w.count(4); relation++) {
            boolean[][] has = new boolean[things][things];
            for (int a = 0; a < things; a++) {
                for (int b = 0; b < things; b++) {
                    has[a][b] = w.related(relation, a, b) == 1;
                }
            }
            int[][] steps = shortest(has);
            for (int a = 0; a < things; a++) {
                for (int b = 0; b < things; b++) {
                    String name = "world " + number + ", relation " + relation + " from " + a + " to " + b;
                    due.is(name, w.along(relation, a, b), steps[a][b]);
                    due.is(name + ", next", w.next(relation, a, b), nearer(has, steps, a, b));
                }
            }
        }
        checkRoutes(number, w, told, false);
        checkRoutes(number, w, told, true);
    }

    private static void checkRoutes(int number, WorldMake w, List<Call> told, boolean any) {
        int things = w.count(2);
        boolean[][] leads = new boolean[things][things];
        for (int a = 0; a < things; a++) {
            for (int d = 0; d < 8; d++) {
                if (letsThrough(w, told, a, d, any)) {
                    leads[a][w.leads(a, d)] = true;
                }
            }
        }
        int[][] steps = shortest(leads);
        for (int a = 0; a < things; a++) {
            for (int b = 0; b < things; b++) {
                boolean rooms = w.sort(a, 0) != UNKNOWN && w.sort(b, 0) != UNKNOWN;
                int direction = NONE;
                for (int d = 7; d >= 0; d--) {
                    if (a != b && steps[a][b] != NONE && letsThrough(w, told, a, d, any)
                        && steps[w.leads(a, d)][b] == steps[a][b] - 1) {
                        direction = d;
                    }
                }
                String name = "world " + number + ", route from " + a + " to " + b + " " + any;
                due.is(name, w.route(a, b, any), rooms ? steps[a][b] : UNKNOWN);
                due.is(name + ", first", w.first(a, b, any), rooms ? direction : UNKNOWN);
            }
        }
    }

    private static boolean letsThrough(WorldMake w, List<Call> told, int a, int d, boolean any) {
        int sort = w.sort(a, d);
        return sort == 1 || sort == 2 || (sort == 3 && (any || isOpen(told, doorAt(told, a, d))));
    }

    private static int doorAt(List<Call> told, int room, int d) {
        for (Call x : told) {
            if (x.is("door") && (x.at(1) == room && x.at(2) == d || x.at(3) == room && (x.at(2) ^ 1) == d)) {
                return x.at(0);
            }
        }
        return NONE;
    }

    private static boolean isOpen(List<Call> told, int door) {
        boolean open = false;
        for (Call x : told) {
            open = x.is("open") && x.at(0) == door ? x.truth(1) : open;
        }
        return open;
    }

    private static int[][] shortest(boolean[][] has) {
        int n = has.length;
        int[][] steps = new int[n][n];
        for (int a = 0; a < n; a++) {
            Arrays.fill(steps[a], NONE);
            for (int b = 0; b < n; b++) {
                steps[a][b] = has[a][b] ? 1 : NONE;
            }
            steps[a][a] = 0;
        }
        for (int by = 0; by < n; by++) {
            for (int a = 0; a < n; a++) {
                for (int b = 0; b < n; b++) {
                    boolean there = steps[a][by] != NONE && steps[by][b] != NONE;
                    int sum = steps[a][by] + steps[by][b];
                    steps[a][b] = there && (steps[a][b] == NONE || sum < steps[a][b]) ? sum : steps[a][b];
                }
            }
        }
        return steps;
    }

    private static int nearer(boolean[][] has, int[][] steps, int a, int b) {
        for (int x = 0; x < has.length; x++) {
            if (a != b && steps[a][b] != NONE && has[a][x] && steps[x][b] == steps[a][b] - 1) {
                return x;
            }
        }
        return NONE;
    }

    // ---- two objects

    private static void checkAlike(int number, WorldMake one, WorldMake other) {
        for (int what = 0; what < 10; what++) {
            due.is("world " + number + ", count(" + what + ")", other.count(what), one.count(what));
        }
        for (int t = 0; t < one.count(2); t++) {
            due.is("world " + number + ", set(" + t + ")", other.set(t), one.set(t));
            due.is("world " + number + ", bulk of " + t, other.says(t, 0), one.says(t, 0));
            for (int p = 0; p < one.count(1); p++) {
                due.is("world " + number + ", value(" + t + ", " + p + ")", other.value(t, p), one.value(t, p));
            }
        }
        due.is("world " + number + ", make()", other.make(), one.make());
        due.is("world " + number + ", digest()", other.digest(), one.digest());
    }
}
