import java.io.ByteArrayOutputStream;
import java.io.PrintStream;
import java.lang.reflect.Method;
import java.net.URL;
import java.net.URLClassLoader;
import java.nio.charset.StandardCharsets;
import java.nio.file.Files;
import java.nio.file.Path;
import java.util.ArrayList;
import java.util.Comparator;
import java.util.List;
import java.util.regex.Matcher;
import java.util.regex.Pattern;
import java.util.stream.Stream;
import javax.tools.ToolProvider;

/** README.md: its program compiles and prints what it says, and each call of the face stands there. */
public final class ReadmeTests {
    private static final Pattern PROGRAM = Pattern.compile("(?s)```java\n(public class Try .*?)```");
    /** What a call answers stands behind the // of its last line. */
    private static final Pattern ANSWER = Pattern.compile("\\); +// (\\S+)");
    private static final Check CHECK = new Check();

    public static void main(String[] args) throws Exception {
        String readme = Files.readString(Path.of("README.md"));
        Matcher program = PROGRAM.matcher(readme);
        CHECK.isTrue("there is a program", program.find());
        String source = program.group(1);
        List<String> due = new ArrayList<>();
        Matcher answers = ANSWER.matcher(source);
        while (answers.find()) {
            due.add(answers.group(1));
        }
        CHECK.same("each say() has its answer", source.split("\\bsay\\(x").length - 1, due.size());
        CHECK.sameText("what it prints", printedBy(source), String.join("\n", due) + "\n");
        for (Method method : SlowWorlds.class.getDeclaredMethods()) {
            boolean told = (method.getModifiers() & 1) == 0 || readme.contains("`" + method.getName() + "`");
            CHECK.isTrue("README tells of " + method.getName(), told);
        }
        CHECK.end();
    }

    private static String printedBy(String source) throws Exception {
        Path place = Files.createTempDirectory("readme");
        try {
            Path file = place.resolve("Try.java");
            Files.writeString(file, source);
            int failed = ToolProvider.getSystemJavaCompiler().run(null, null, null, "-cp",
                    System.getProperty("java.class.path"), "-d", place.toString(), file.toString());
            CHECK.same("javac", failed, 0);
            return failed == 0 ? run(place) : "";
        } finally {
            try (Stream<Path> all = Files.walk(place)) {
                for (Path path : all.sorted(Comparator.reverseOrder()).toList()) {
                    Files.delete(path);
                }
            }
        }
    }

    private static String run(Path place) throws Exception {
        PrintStream ahead = System.out;
        ByteArrayOutputStream printed = new ByteArrayOutputStream();
        try (URLClassLoader loader = new URLClassLoader(new URL[] {place.toUri().toURL()}, ReadmeTests.class.getClassLoader())) {
            Method main = loader.loadClass("Try").getMethod("main", String[].class);
            System.setOut(new PrintStream(printed, true, StandardCharsets.UTF_8));
            main.invoke(null, (Object) new String[0]);
        } finally {
            System.setOut(ahead);
        }
        return printed.toString(StandardCharsets.UTF_8).replace("\r", "");
    }
}
