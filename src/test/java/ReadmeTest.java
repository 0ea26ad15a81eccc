import java.io.IOException;
import java.lang.reflect.Method;
import java.lang.reflect.Modifier;
import java.nio.file.Files;
import java.nio.file.Path;
import java.util.HashMap;
import java.util.Map;
import java.util.regex.Matcher;
import java.util.regex.Pattern;

/** README.md: the calls that it shows answer as it says, and its names and numbers are the class's own. */
public final class ReadmeTest {
    private static final Due due = new Due("ReadmeTest");
    private static final Pattern SHOWN =
        Pattern.compile("(?:int (\\w+) = )?w\\.(\\w+)\\((.*)\\); +// (-?\\d+)\\b.*");
    private static final Pattern NAMED = Pattern.compile("\\| `?([A-Z]+)`? \\| (-?\\d+) \\|(?: (-\\d+) \\|)?.*");
    private static final Map<String, Integer> REFUSALS = Map.of("UNKNOWN", WorldMake.UNKNOWN,
        "OUTSIDE", WorldMake.OUTSIDE, "STATE", WorldMake.STATE, "FULL", WorldMake.FULL, "NOWAY", WorldMake.NOWAY);
    private static final Map<String, Integer> FAULTS = Map.of("NULL", Due.NULL, "INDEX", Due.INDEX,
        "CAST", Due.CAST, "STORE", Due.STORE, "SIZE", Due.SIZE, "QUOTIENT", Due.QUOTIENT);

    public static void main(String[] args) throws IOException {
        String text = Files.readString(Path.of("README.md"));
        calls(text);
        numbers(text);
        names(text);
        due.end();
    }

    private static void calls(String text) {
        WorldMake w = new WorldMake();
        Map<String, Long> numbers = new HashMap<>();
        int shown = 0;
        for (String line : text.split("\n")) {
            Matcher call = SHOWN.matcher(line);
            if (!call.matches()) {
                continue;
            }
            shown++;
            long answer = callOf(call.group(2), call.group(3), numbers).on(w);
            due.is(line, answer, Long.parseLong(call.group(4)));
            if (call.group(1) != null) {
                numbers.put(call.group(1), answer);
            }
        }
        due.holds("calls are shown", shown >= 30 && shown == text.split("= w\\.|\nw\\.", -1).length - 1);
    }

    private static Call callOf(String name, String inside, Map<String, Long> numbers) {
        String[] texts = inside.isEmpty() ? new String[0] : inside.split(", ");
        long[] n = new long[texts.length];
        for (int i = 0; i < n.length; i++) {
            n[i] = number(texts[i], numbers);
        }
        return new Call(name, n);
    }

    /** A number, a truth, a name given ahead, or a set of bits: 1L << a | 1L << b. */
    private static long number(String text, Map<String, Long> numbers) {
        if (text.contains("<<")) {
            long set = 0;
            for (String bit : text.split(" \\| ")) {
                set |= 1L << number(bit.replace("1L << ", ""), numbers);
            }
            return set;
        }
        if (text.equals("true") || text.equals("false")) {
            return text.equals("true") ? 1 : 0;
        }
        return numbers.containsKey(text) ? numbers.get(text) : Long.parseLong(text);
    }

    private static void numbers(String text) {
        int found = 0;
        for (String line : text.split("\n")) {
            Matcher row = NAMED.matcher(line);
            if (!row.matches()) {
                continue;
            }
            found++;
            long number = Long.parseLong(row.group(2));
            if (row.group(3) == null) {
                due.is(line, number, REFUSALS.getOrDefault(row.group(1), 0));
            } else {
                due.is(line, Long.parseLong(row.group(3)), FAULTS.getOrDefault(row.group(1), 0));
                due.is(line, Long.parseLong(row.group(3)), -10 - number);
            }
        }
        due.is("refusals and faults that are named", found, REFUSALS.size() + FAULTS.size());
        due.holds("NONE is named", text.contains("| " + WorldMake.NONE + ", `NONE` |"));
        due.holds("the 512 calls are named", text.contains("at most **512 calls**"));
    }

    private static void names(String text) throws IOException {
        for (Method m : WorldMake.class.getDeclaredMethods()) {
            due.holds("README.md names " + m.getName(),
                !Modifier.isPublic(m.getModifiers()) || text.contains("`" + m.getName() + "`"));
        }
        try (var files = Files.list(Path.of("src/test/java"))) {
            for (Path file : files.toList()) {
                String name = file.getFileName().toString().replace(".java", "");
                due.holds("README.md names " + name, !name.endsWith("Test") || name.endsWith("EdgesTest")
                    || text.contains("`" + name + "`"));
            }
        }
    }
}
