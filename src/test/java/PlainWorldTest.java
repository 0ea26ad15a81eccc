import java.lang.reflect.Method;
import java.lang.reflect.Modifier;
import java.util.List;
import java.util.Map;
import java.util.Set;
import java.util.TreeMap;

/**
 * Any calls, right and wrong, in any order: each answer beside that of PlainWorld. Half the worlds keep to one part of
 * the document, so that calls meet what earlier ones told; some are told so much that there is no sentence left.
 * The calls come from fixed rows of numbers, so every run is the same; two numbers behind the name ask for the worlds
 * from one to another.
 */
public final class PlainWorldTest {
    private static final int WORLDS = 2000, CALLS = 512;
    private static final Due due = new Due("PlainWorldTest");
    private static final Map<String, Method> PLAIN = new TreeMap<>();

    private static final Set<String> SENTENCES =
        Set.of("put", "bar", "give", "among", "pair", "most", "relate", "deny", "exit", "door", "settle");
    private static final List<Set<String>> PARTS = List.of(
        Set.of("bar", "exit", "relation", "property"),
        Set.of("kind", "is", "property", "usual", "thing", "give", "value", "given", "peek", "follow", "make", "word"),
        Set.of("put", "place", "says", "mark", "remark", "open", "thing", "bar", "follow", "give", "property"),
        Set.of("put", "bar", "among", "pair", "most", "settle", "set", "place", "count", "sentence", "thing"),
        Set.of("relation", "relate", "deny", "related", "along", "next", "make", "word", "sentence"),
        Set.of("exit", "door", "leads", "sort", "route", "first", "open", "make", "digest", "thing"),
        Set.of("shelf", "stand", "stands", "haul", "came", "fault", "thing", "kind"),
        Set.of("table", "fill", "blank", "read", "choose", "rank", "total", "mean", "fault"));

    public static void main(String[] args) throws ReflectiveOperationException {
        for (Method m : WorldMake.class.getDeclaredMethods()) {
            if (Modifier.isPublic(m.getModifiers())) {
                PLAIN.put(m.getName(), PlainWorld.class.getDeclaredMethod(m.getName(), m.getParameterTypes()));
            }
        }
        int from = args.length > 1 ? Integer.parseInt(args[0]) : 0;
        int to = args.length > 1 ? Integer.parseInt(args[1]) : WORLDS;
        for (int world = from; world < to; world++) {
            run(world);
        }
        due.end();
    }

    private static void run(int number) throws ReflectiveOperationException {
        CallMaker maker = new CallMaker(number);
        WorldMake guide = new WorldMake();
        WorldMake w = new WorldMake();
        PlainWorld plain = new PlainWorld();
        for (int i = 0; i < CALLS; i++) {
            Call call = i < 6 + number % 20 ? maker.firstThing(i) : next(maker, guide, number, i);
            long answer = call.on(w);
            call.on(guide);
            maker.heard(call, answer);
            due.is("world " + number + ", call " + i + " " + call, answer, on(plain, call));
        }
    }

    /** Worlds of the first part are told bars, so that other sentences come near the 300th and behind it. */
    private static Call next(CallMaker maker, WorldMake guide, int number, int i) {
        Call call = maker.next(guide);
        int part = number / 2 % PARTS.size();
        boolean keepsToPart = number % 2 == 1 && i < 500;
        Set<String> names = part == 0 && i >= 400 ? SENTENCES : PARTS.get(part);
        for (int tries = 0; tries < 500 && keepsToPart && !names.contains(call.name()); tries++) {
            call = maker.next(guide);
        }
        return call;
    }

    private static long on(PlainWorld plain, Call call) throws ReflectiveOperationException {
        Method method = PLAIN.get(call.name());
        Class<?>[] types = method.getParameterTypes();
        Object[] n = new Object[types.length];
        for (int i = 0; i < n.length; i++) {
            n[i] = types[i] == long.class ? (Object) call.n()[i]
                : types[i] == boolean.class ? (Object) call.truth(i) : (Object) call.at(i);
        }
        return ((Number) method.invoke(plain, n)).longValue();
    }
}
