import java.lang.reflect.Constructor;
import java.lang.reflect.Field;
import java.lang.reflect.Method;
import java.lang.reflect.Modifier;
import java.nio.file.Files;
import java.nio.file.Path;
import java.util.ArrayList;
import java.util.Arrays;
import java.util.List;
import java.util.TreeSet;
import java.util.regex.Matcher;
import java.util.regex.Pattern;

/** The rules of LANGUAGE.md that can be looked at from outside: the face, and words that must not stand in the source. */
public final class LanguageTests {
    private static final String FACE = "status top bottom tray write read pour feed sky years fault told rock ice direction light "
            + "iced arrives ship sees nearest meetings span stale blind closest knows teller hops knowing overtaken early latest "
            + "centre cutOff hearsBack remote order given heard rules ruled before oneForAll disputes peace kth reign idle echo "
            + "answered joint confirmed sure cheap price priceSeen gain hoped market meanPrice pass wore wear fashion follows "
            + "model changes uniform live lived mean mark back";

    public static void main(String[] args) throws Exception {
        Check check = new Check();
        TreeSet<String> due = new TreeSet<>(Arrays.asList(FACE.split(" ")));
        TreeSet<String> seen = new TreeSet<>();
        for (Method method : SlowWorlds.class.getDeclaredMethods()) {
            if (Modifier.isPublic(method.getModifiers())) {
                seen.add(method.getName());
            } else {
                check.isTrue("private " + method.getName(), Modifier.isPrivate(method.getModifiers()));
                check.isTrue("no public name for " + method.getName(), !due.contains(method.getName()));
            }
        }
        check.isTrue("the face is " + due + ", is " + seen, due.equals(seen));
        for (Field field : SlowWorlds.class.getDeclaredFields()) {
            boolean fine = Modifier.isPrivate(field.getModifiers()) || field.getName().equals("NONE");
            check.isTrue("private field " + field.getName(), fine);
            check.isTrue("final static " + field.getName(),
                    !Modifier.isStatic(field.getModifiers()) || Modifier.isFinal(field.getModifiers()));
        }
        for (Constructor<?> made : SlowWorlds.class.getDeclaredConstructors()) {
            check.isTrue("one public constructor", Modifier.isPublic(made.getModifiers()) && made.getParameterCount() == 0);
        }
        for (Class<?> inside : SlowWorlds.class.getDeclaredClasses()) {
            check.isTrue("static " + inside, Modifier.isStatic(inside.getModifiers()));
            for (Method method : inside.getDeclaredMethods()) {
                check.isTrue("no public name for " + inside + method.getName(), !due.contains(method.getName()));
                check.isTrue("seven parameters at most " + method, method.getParameterCount() <= 7);
            }
        }
        check.isTrue("some twelve classes", SlowWorlds.class.getDeclaredClasses().length + 1 <= 12);
        lookAtSource(check);
        check.end();
    }

    private static void lookAtSource(Check check) throws Exception {
        String source = Files.readString(Path.of("src/main/java/SlowWorlds.java"));
        String code = source.replaceAll("(?s)/\\*.*?\\*/", "").replaceAll("//[^\n]*", "");
        List<String> banned = new ArrayList<>(List.of("throw", "throws", "try", "catch", "finally", "synchronized", "assert",
                "package", "protected", "System\\.out", "System\\.exit", "hashCode", "toString", "Random", "Thread", "Object",
                "double", "float", "MAX_VALUE", "MIN_VALUE"));
        for (String word : banned) {
            check.isTrue("no " + word, !Pattern.compile("\\b" + word + "\\b").matcher(code).find());
        }
        check.isTrue("no lambda", !code.contains("->") && !code.contains("::"));
        Matcher imports = Pattern.compile("import ([^;]*);").matcher(code);
        while (imports.find()) {
            check.isTrue("import " + imports.group(1), imports.group(1).equals("java.util.Arrays"));
        }
        for (char sign : source.toCharArray()) {
            if (sign > 126) {
                check.isTrue("plain sign " + (int) sign, false);
            }
        }
    }
}
