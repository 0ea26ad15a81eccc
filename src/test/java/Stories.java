import java.util.ArrayList;
import java.util.Arrays;
import java.util.List;
import java.util.Map;
import java.util.function.IntFunction;

/**
 * Stories: each is a sentence of the document, and a run of calls on a new object with the answers that are due.
 *
 * Calls stand one behind the other with ; between them, as put(3, 1) = STATE. The answer is a number, a refusal's or a
 * fault's name, or AGAINST and a sentence's number; "= 6 .." counts up from 6 with each call; a call without "=" must
 * be let (it answers 0 or above). "18 x kind(0)" is 18 calls; "kind(-1|24)" is one call for each number; {0 63} is a
 * set of bits; "world ROOM DOOR" is thing(ROOM, 1) and thing(DOOR, 1).
 *
 * Behind each call that is refused, comes to a fault or goes against a sentence, and behind each that only asks, it is
 * looked at whether anything is otherwise than without that call: the same calls, right and wrong, are made on two
 * objects, of which one has had that call. A story, and what is asked behind it, keeps to 512 calls an object.
 */
final class Stories {
    private static final int MOST_CALLS = 512, ASKED = 150, ROUNDS = 3;

    private static final Map<String, Long> NUMBERS = Map.ofEntries(
        Map.entry("MIN", (long) Integer.MIN_VALUE), Map.entry("MAX", (long) Integer.MAX_VALUE),
        Map.entry("LMIN", Long.MIN_VALUE), Map.entry("LMAX", Long.MAX_VALUE),
        Map.entry("NONE", -9L), Map.entry("true", 1L), Map.entry("false", 0L),
        Map.entry("THING", 0L), Map.entry("ROOM", 1L), Map.entry("DOOR", 2L),
        Map.entry("BACKDROP", 3L), Map.entry("CARRIER", 4L), Map.entry("PERSON", 5L));
    private static final Map<String, Integer> REFUSALS =
        Map.of("UNKNOWN", -1, "OUTSIDE", -2, "STATE", -3, "FULL", -4, "NOWAY", -5);
    private static final Map<String, Integer> FAULTS =
        Map.of("NULL", 1, "INDEX", 2, "CAST", 3, "STORE", 4, "SIZE", 5, "QUOTIENT", 6);

    private final Due due;
    private int told = 0;

    /** A call with what is due; free if it must only be let. */
    private record Line(Call call, boolean free, long answer, boolean refused, int fault) {
    }

    Stories(String test) {
        due = new Due(test);
    }

    void end() {
        System.out.println(told + " stories");
        due.end();
    }

    void tell(String sentence, String calls) {
        told++;
        WorldMake w = new WorldMake();
        List<Call> ahead = new ArrayList<>();
        int fault = 0;
        int faultsAsked = 0;
        for (Line line : linesOf(calls)) {
            String name = sentence + " [" + ahead.size() + "] " + line.call();
            long answer = line.call().on(w);
            if (line.free()) {
                due.holds(name + " is let", answer >= 0);
            } else {
                due.is(name, answer, line.answer());
            }
            if (line.refused() || line.fault() != 0) {
                fault = line.fault() == 0 ? fault : line.fault();
                due.is(name + ", then fault()", w.fault(), fault);
                faultsAsked++;
            }
            if (line.refused() || line.call().reads()) {
                checkUnchanged(name, ahead, line.call());
            }
            ahead.add(line.call());
            fault = line.call().is("clear") ? 0 : fault;
        }
        due.holds(sentence + ": has at most 512 calls", ahead.size() + faultsAsked <= MOST_CALLS);
    }

    /** Calls for each number from one to another, both too. */
    static String each(int from, int to, IntFunction<String> call) {
        StringBuilder calls = new StringBuilder();
        for (int k = from; k <= to; k++) {
            calls.append(call.apply(k)).append(';');
        }
        return calls.toString();
    }

    // ---- what a call has changed

    private void checkUnchanged(String name, List<Call> ahead, Call call) {
        for (int round = 0; round < ROUNDS; round++) {
            List<Call> asked = asked(ahead, 31L * told + round);
            WorldMake with = after(ahead);
            call.on(with);
            WorldMake without = after(ahead);
            for (Call ask : asked) {
                due.is(name + " has changed " + ask, ask.on(with), ask.on(without));
            }
        }
    }

    private static WorldMake after(List<Call> calls) {
        WorldMake w = new WorldMake();
        for (Call call : calls) {
            call.on(w);
        }
        return w;
    }

    /** Any calls that make sense behind some others; fault() is not asked, since a fault changes it. */
    private static List<Call> asked(List<Call> ahead, long seed) {
        CallMaker maker = new CallMaker(seed * 512 + ahead.size());
        WorldMake guide = new WorldMake();
        for (Call call : ahead) {
            maker.heard(call, call.on(guide));
        }
        List<Call> asked = new ArrayList<>();
        int most = Math.min(ASKED, MOST_CALLS - 1 - ahead.size());
        while (asked.size() < most) {
            Call call = maker.next(guide);
            maker.heard(call, call.on(guide));
            if (!call.is("fault")) {
                asked.add(call);
            }
        }
        return asked;
    }

    // ---- how stories are written

    private static List<Line> linesOf(String story) {
        List<Line> lines = new ArrayList<>();
        for (String part : story.split(";")) {
            String text = part.strip();
            if (text.startsWith("world ")) {
                for (String kind : text.substring(6).strip().split("\\s+")) {
                    lines.add(new Line(new Call("thing", NUMBERS.get(kind), 1), true, 0, false, 0));
                }
            } else if (!text.isEmpty()) {
                addLines(lines, text);
            }
        }
        return lines;
    }

    private static void addLines(List<Line> lines, String text) {
        int equals = text.indexOf('=');
        String left = equals < 0 ? text : text.substring(0, equals).strip();
        String right = equals < 0 ? "" : text.substring(equals + 1).strip();
        int times = 1;
        if (Character.isDigit(left.charAt(0))) {
            times = Integer.parseInt(left.substring(0, left.indexOf(' ')));
            left = left.substring(left.indexOf('x') + 1).strip();
        }
        int steps = 0;
        for (int k = 0; k < times; k++) {
            for (Call call : callsOf(left)) {
                lines.add(lineOf(call, right, steps));
                steps++;
            }
        }
    }

    private static Line lineOf(Call call, String answer, int steps) {
        if (answer.isEmpty()) {
            return new Line(call, true, 0, false, 0);
        }
        if (answer.endsWith("..")) {
            return new Line(call, false, number(answer.substring(0, answer.length() - 2)) + steps, false, 0);
        }
        if (answer.startsWith("AGAINST ")) {
            return new Line(call, false, -100 - number(answer.substring(8)), true, 0);
        }
        if (FAULTS.containsKey(answer)) {
            int fault = FAULTS.get(answer);
            return new Line(call, false, -10 - fault, !call.is("haul") || fault != 4, fault);
        }
        if (REFUSALS.containsKey(answer)) {
            return new Line(call, false, REFUSALS.get(answer), true, 0);
        }
        return new Line(call, false, number(answer), false, 0);
    }

    /** One call for each number where several stand with | between them. */
    private static List<Call> callsOf(String text) {
        int open = text.indexOf('(');
        String name = text.substring(0, open);
        String inside = text.substring(open + 1, text.length() - 1).strip();
        List<long[]> rows = new ArrayList<>();
        rows.add(new long[0]);
        for (String argument : inside.isEmpty() ? new String[0] : inside.split(",")) {
            List<long[]> longer = new ArrayList<>();
            for (long[] row : rows) {
                for (String one : argument.split("\\|")) {
                    long[] more = Arrays.copyOf(row, row.length + 1);
                    more[row.length] = number(one);
                    longer.add(more);
                }
            }
            rows = longer;
        }
        List<Call> calls = new ArrayList<>();
        for (long[] row : rows) {
            calls.add(new Call(name, row));
        }
        return calls;
    }

    private static long number(String text) {
        String word = text.strip();
        if (NUMBERS.containsKey(word)) {
            return NUMBERS.get(word);
        }
        if (!word.startsWith("{")) {
            return Long.parseLong(word);
        }
        long set = 0;
        for (String bit : word.substring(1, word.length() - 1).strip().split("\\s+")) {
            set |= bit.isEmpty() ? 0 : 1L << Integer.parseInt(bit);
        }
        return set;
    }
}
