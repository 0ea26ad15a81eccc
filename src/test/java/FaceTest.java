import java.io.IOException;
import java.lang.reflect.Field;
import java.lang.reflect.Member;
import java.lang.reflect.Method;
import java.lang.reflect.Modifier;
import java.nio.file.Files;
import java.nio.file.Path;
import java.util.Arrays;
import java.util.List;
import java.util.Set;
import java.util.TreeSet;
import java.util.regex.Pattern;

/** The public face, and those rules of LANGUAGE.md that can be seen from outside or from single lines. */
public final class FaceTest {
    private static final Due due = new Due("FaceTest");

    private static final List<String> METHODS = List.of(
        "int kind(int)", "int is(int, int)", "int property(int, int, int)", "int usual(int, int, long)",
        "int thing(int, int)", "int put(int, int)", "int bar(int, int)", "int give(int, int, long)",
        "long value(int, int)", "int given(int, int)", "long peek(int, int, int)", "int place(int, int)",
        "int says(int, int)", "int follow(int, int, int)", "int mark(int, int)", "int remark(int, int, int)",
        "int open(int, boolean)", "int among(int, long)", "int pair(int, int, boolean)", "int most(int, int)",
        "int settle()", "long set(int)", "int relation(int)", "int relate(int, int, int)", "int deny(int, int, int)",
        "int related(int, int, int)", "int along(int, int, int)", "int next(int, int, int)",
        "int exit(int, int, int)", "int door(int, int, int, int)", "int leads(int, int)", "int sort(int, int)",
        "int route(int, int, boolean)", "int first(int, int, boolean)", "int shelf(int, int)",
        "int stand(int, int, int)", "int stands(int, int)", "int haul(int, int, int, int, int)", "int came()",
        "int table(int, int, int)", "int fill(int, int, int, long)", "int blank(int, int, int)",
        "long read(int, int, int)", "int choose(int, int, long, int)", "int rank(int, int, boolean)",
        "long total(int, int)", "long mean(int, int)", "int make()", "int word(int)", "long digest()",
        "int sentence(int, int)", "int count(int)", "int fault()", "int clear()");

    private static final Set<String> CONSTANTS =
        Set.of("UNKNOWN", "OUTSIDE", "STATE", "FULL", "NOWAY", "NONE");

    public static void main(String[] args) throws IOException {
        publicFace();
        constants();
        classesInside();
        lines(Files.readAllLines(Path.of("src/main/java/WorldMake.java")));
        due.end();
    }

    private static void publicFace() {
        due.holds("the class is public and final",
            Modifier.isPublic(WorldMake.class.getModifiers()) && Modifier.isFinal(WorldMake.class.getModifiers()));
        Set<String> seen = new TreeSet<>();
        for (Method m : WorldMake.class.getDeclaredMethods()) {
            if (isOpenToOthers(m)) {
                String parameters = Arrays.toString(m.getParameterTypes());
                seen.add(m.getReturnType() + " " + m.getName()
                    + "(" + parameters.substring(1, parameters.length() - 1) + ")");
            }
        }
        for (String method : METHODS) {
            due.holds("there is " + method, seen.remove(method));
        }
        due.holds("there are no others: " + seen, seen.isEmpty());
        due.is("constructors", WorldMake.class.getDeclaredConstructors().length, 1);
        due.is("public constructors", WorldMake.class.getConstructors().length, 1);
    }

    private static boolean isOpenToOthers(Member m) {
        return !Modifier.isPrivate(m.getModifiers()) && !m.isSynthetic();
    }

    private static void constants() {
        due.is("UNKNOWN", WorldMake.UNKNOWN, -1);
        due.is("OUTSIDE", WorldMake.OUTSIDE, -2);
        due.is("STATE", WorldMake.STATE, -3);
        due.is("FULL", WorldMake.FULL, -4);
        due.is("NOWAY", WorldMake.NOWAY, -5);
        due.is("NONE", WorldMake.NONE, -9);
        for (Field f : WorldMake.class.getDeclaredFields()) {
            boolean constant = CONSTANTS.contains(f.getName());
            due.holds("field " + f.getName(), constant == isOpenToOthers(f));
        }
    }

    private static void classesInside() {
        Class<?>[] inside = WorldMake.class.getDeclaredClasses();
        due.holds("at most twelve classes", inside.length < 12);
        ownMembers(WorldMake.class);
        for (Class<?> c : inside) {
            due.holds(c + " is static", Modifier.isStatic(c.getModifiers()));
            due.holds(c + " is not public", !Modifier.isPublic(c.getModifiers()));
            ownMembers(c);
        }
    }

    private static void ownMembers(Class<?> c) {
        int fields = 0;
        for (Field f : c.getDeclaredFields()) {
            boolean fixed = Modifier.isStatic(f.getModifiers());
            due.holds(f + " is final if static", !fixed || Modifier.isFinal(f.getModifiers()));
            fields += fixed ? 0 : 1;
        }
        due.holds(c + " has at most twenty fields", fields <= 20);
        for (Method m : c.getDeclaredMethods()) {
            due.holds(m + " takes at most seven", m.getParameterCount() <= 7);
            boolean ofTheFace = c == WorldMake.class && Modifier.isPublic(m.getModifiers());
            due.holds(m + " does not bear a public name",
                ofTheFace || METHODS.stream().noneMatch(p -> p.contains(" " + m.getName() + "(")));
        }
    }

    private static void lines(List<String> lines) {
        Pattern forbidden = Pattern.compile(
            "\\b(throw|try|catch|synchronized|assert|package|protected|transient|volatile|native)\\b|->|::|Exact\\(");
        int methodStart = -1;
        for (int i = 0; i < lines.size(); i++) {
            String line = lines.get(i);
            boolean comment = line.strip().startsWith("*") || line.strip().startsWith("/");
            due.holds("line " + (i + 1) + " keeps to the rules", comment || !forbidden.matcher(line).find());
            due.holds("line " + (i + 1) + " imports only what is listed",
                !line.startsWith("import") || line.equals("import java.util.Arrays;"));
            if (line.matches("( {4}| {8})[\\w\\[\\] ]+\\(.*\\) \\{")) {
                methodStart = i;
            }
            if (line.matches("( {4}| {8})}") && methodStart >= 0) {
                due.holds("the method at line " + (methodStart + 1) + " is short", i - methodStart < 60);
                methodStart = -1;
            }
        }
    }
}
