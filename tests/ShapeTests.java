import java.lang.reflect.Field;
import java.lang.reflect.Modifier;
import java.nio.file.Files;
import java.nio.file.Path;
import java.util.HashMap;
import java.util.LinkedHashMap;
import java.util.Map;
import java.util.regex.Matcher;
import java.util.regex.Pattern;

/**
 * Rule 11 of LANGUAGE.md: how long methods are, how many fields a class has, how deep calls go. A call may be of any
 * method of that name, so the depth that is found is at least as great as the true one; one of the library counts, too.
 */
public final class ShapeTests {
    private static final int MOST_LINES = 60;
    private static final int MOST_FIELDS = 20;
    private static final int MOST_DEEP = 8;
    private static final Pattern CLASS = Pattern.compile("^ *(?:public|private static) final class (\\w+) \\{$");
    private static final Pattern METHOD = Pattern.compile("^ {4,8}(?:(?:public|private|static) )*(?:[\\w\\[\\]]+ )?(\\w+)\\([^;]*\\) \\{$");
    private static final Pattern CALL = Pattern.compile("\\b(\\w+)\\(");
    private static final Check CHECK = new Check();

    /** "Class.method" and its lines. */
    private final Map<String, String> bodies = new LinkedHashMap<>();
    private final Map<String, Integer> depths = new HashMap<>();

    public static void main(String[] args) throws Exception {
        ShapeTests tests = new ShapeTests();
        tests.readSource();
        CHECK.isTrue("methods are found", tests.bodies.size() > 150);
        for (String method : tests.bodies.keySet()) {
            CHECK.isTrue("short " + method, tests.bodies.get(method).split("\n").length <= MOST_LINES);
            int deep = tests.depthOf(method, 0);
            CHECK.isTrue("eight deep at most: " + method + " is " + deep, deep <= MOST_DEEP);
        }
        CHECK.same("live() is at the limit, so the depth is found", tests.depthOf("SlowWorlds.live", 0), MOST_DEEP);
        CHECK.same("status() calls nothing", tests.depthOf("SlowWorlds.status", 0), 1);
        fields(SlowWorlds.class);
        for (Class<?> inside : SlowWorlds.class.getDeclaredClasses()) {
            fields(inside);
        }
        CHECK.end();
    }

    private static void fields(Class<?> of) {
        int many = 0;
        for (Field field : of.getDeclaredFields()) {
            many += Modifier.isStatic(field.getModifiers()) ? 0 : 1;
        }
        CHECK.isTrue("some twenty fields of " + of, many <= MOST_FIELDS);
    }

    private void readSource() throws Exception {
        String inside = "";
        String method = "";
        for (String row : Files.readAllLines(Path.of("src/main/java/SlowWorlds.java"))) {
            String line = row.replaceAll("//.*", "");
            Matcher begins = CLASS.matcher(line);
            Matcher opens = METHOD.matcher(line);
            if (begins.matches()) {
                inside = begins.group(1);
                method = "";
            } else if (opens.matches()) {
                method = inside + "." + opens.group(1);
                bodies.merge(method, "", (one, other) -> {
                    throw new IllegalStateException("two methods of one name");
                });
            } else if (!method.isEmpty()) {
                bodies.merge(method, line + "\n", String::concat);
            }
            if (line.equals("    }") || line.equals("        }") && !inside.equals("SlowWorlds")) {
                method = "";
            }
        }
    }

    /** How many calls stand open at once at most, its own among them. */
    private int depthOf(String method, int open) {
        CHECK.isTrue("no method calls itself: " + method, open < 40);
        Integer known = depths.get(method);
        if (known != null || open >= 40) {
            return known == null ? open : known;
        }
        int below = 0;
        Matcher calls = CALL.matcher(bodies.get(method));
        while (calls.find()) {
            String name = calls.group(1);
            if (!name.equals("if") && !name.equals("for") && !name.equals("while") && !name.equals("switch")) {
                below = Math.max(below, deepestNamed(name, method, open));
            }
        }
        depths.put(method, below + 1);
        return below + 1;
    }

    private int deepestNamed(String name, String caller, int open) {
        // A name that no method bears is the library's.
        int deepest = 1;
        for (String method : bodies.keySet()) {
            boolean named = method.endsWith("." + name);
            // copyFrom() and begin() of a World call those of its parts.
            if (named && !method.equals(caller)) {
                deepest = Math.max(deepest, depthOf(method, open + 1));
            }
        }
        return deepest;
    }
}
