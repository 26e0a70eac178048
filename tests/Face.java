import java.lang.reflect.InvocationTargetException;
import java.lang.reflect.Method;
import java.util.HashMap;
import java.util.Map;

/** An object whose calls are told as text ("direction 0 500"), and all that can be seen of it. */
final class Face {
    /** The document promises nothing behind the 512th call. */
    private static final int MOST_CALLS = 512;
    private static final Map<String, Method> METHODS = new HashMap<>();

    static {
        for (Method method : SlowWorlds.class.getDeclaredMethods()) {
            METHODS.put(method.getName(), method);
        }
    }

    final SlowWorlds x = new SlowWorlds();
    private int calls;

    /** Booleans count 1 and 0. */
    long call(String row) {
        String[] words = row.split(" ");
        Method method = METHODS.get(words[0]);
        Object[] given = new Object[words.length - 1];
        for (int i = 0; i < given.length; i++) {
            long number = words[i + 1].equals("min") ? Integer.MIN_VALUE : words[i + 1].equals("max") ? Integer.MAX_VALUE
                    : Long.parseLong(words[i + 1]);
            given[i] = method.getParameterTypes()[i] == long.class ? (Object) number : (Object) (int) number;
        }
        calls++;
        if (calls > MOST_CALLS) {
            throw new IllegalStateException("more than 512 calls of one object: " + row);
        }
        try {
            Object got = method.invoke(x, given);
            return got instanceof Boolean is ? is ? 1 : 0 : ((Number) got).longValue();
        } catch (InvocationTargetException | IllegalAccessException thrown) {
            throw new IllegalStateException(row, thrown);
        }
    }

    /** What a refused call gives: NONE, or false. */
    static long refusal(String row) {
        return METHODS.get(row.split(" ")[0]).getReturnType() == boolean.class ? 0 : -1;
    }

    Face does(String... rows) {
        for (String row : rows) {
            call(row);
        }
        return this;
    }

    /** The text comes to the tape, behind it zeroes to twenty bytes. */
    Face feeds(String text) {
        calls += (text.length() + 19) / 20;
        Check.feed(x, text);
        return this;
    }

    Face sky(String text) {
        return feeds(text).does("sky " + text.length());
    }

    Face years(String text) {
        return feeds(text).does("years " + text.length());
    }

    private void tell(StringBuilder all, String row) {
        all.append(row).append(" = ").append(call(row)).append(" (").append(x.status()).append(")\n");
    }

    /** All that can be seen; what the latest call was is not told by it, and this object is spoilt by it. */
    String all(boolean withTapeAndFault) {
        StringBuilder all = new StringBuilder();
        all.append(call("top")).append(" by ").append(call("bottom")).append('\n');
        if (withTapeAndFault) {
            all.append("fault ").append(call("fault 0")).append(" at ").append(call("fault 1")).append('\n');
        }
        for (int tray = 0; tray < 4; tray++) {
            for (int place = 0; place < 6; place++) {
                tell(all, "read " + tray + " " + place);
            }
        }
        tellLived(all);
        tellWorld(all, true);
        tell(all, "live 77");
        tellLived(all);
        tellWorld(all, false);
        tellMarks(all);
        if (withTapeAndFault) {
            all.append("feed ").append(call("feed 0 0 0 0 0")).append('\n');
            tell(all, "sky 40");
            all.append("fault ").append(call("fault 0")).append(" at ").append(call("fault 1")).append('\n');
            tell(all, "rock 0 0");
            tell(all, "rock 1 0");
        }
        return all.toString();
    }

    private void tellLived(StringBuilder all) {
        for (int what = 0; what < 5; what++) {
            tell(all, "lived " + what);
        }
    }

    private void tellMarks(StringBuilder all) {
        for (int turn = 0; turn < 4; turn++) {
            tell(all, "back");
            tellWorld(all, false);
            tell(all, "live 3");
            tell(all, "told 5");
        }
    }

    private void tellWorld(StringBuilder all, boolean whole) {
        for (int what = 0; what < 6; what++) {
            tell(all, "told " + what);
        }
        long rocks = call("told 0");
        long orders = call("told 4");
        for (int rock = 0; rock < rocks; rock++) {
            for (int what = 0; what < 6 && whole; what++) {
                tell(all, "rock " + rock + " " + what);
            }
            tell(all, "wore " + rock + " 0");
            tell(all, "changes " + rock);
            tell(all, "rules " + rock + " 500");
        }
        for (int ice = 0; ice < call("told 1") && whole; ice++) {
            for (int what = 0; what < 4; what++) {
                tell(all, "ice " + ice + " " + what);
            }
        }
        for (int order = 0; order < orders && whole; order++) {
            tell(all, "given " + order + " 0");
            tell(all, "given " + order + " 1");
            tell(all, "heard " + order + " 0");
        }
        tell(all, "uniform");
        tell(all, "disputes");
        tell(all, "span 7");
    }
}
