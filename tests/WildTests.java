import java.lang.reflect.Method;
import java.lang.reflect.Modifier;
import java.util.Arrays;
import java.util.Comparator;
import java.util.Random;

/** Wild arguments in many states: no call throws, a refused one answers NONE or false, a STATUS is one of the document's. */
public final class WildTests {
    private static final int[] WILD = {Integer.MIN_VALUE, Integer.MIN_VALUE + 1, -1000000, -2, -1, 0, 1, 2, 3, 4, 5, 6, 7, 8, 12, 19, 20,
        21, 39, 40, 41, 59, 60, 61, 63, 64, 99, 100, 300, 301, 399, 400, 401, 460, 461, 500, 501, 900, 901, 9999, 10000, 65536,
        1 << 30, Integer.MAX_VALUE - 1, Integer.MAX_VALUE};
    private static final String SKY = "rock a far 20 round 7 at 0 rank 1 price 9 swing 20;rock b far 20 round 99 at 6 wears;"
            + "rock c far 0 round 1 at 1;rock d far 20 round 2 at 1;rock e far 7 round 12 at 11 wears;rock f far 1 round 5 at 5 price 99;"
            + "ice a b from 0 to 400;ice b f from 3 to 90;ice c d from 0 to 0;law last;";
    private static final String YEARS = "loop 99;chance 3;week 9;when wears a;order b;end;end;";

    public static void main(String[] args) throws Exception {
        Check check = new Check();
        Method[] methods = SlowWorlds.class.getDeclaredMethods();
        Arrays.sort(methods, Comparator.comparing(Method::getName));
        for (int seed = 0; seed < 300; seed++) {
            Random random = new Random(seed);
            SlowWorlds x = new SlowWorlds();
            if (seed % 3 > 0) {
                Check.sky(x, SKY);
                Check.years(x, YEARS);
            }
            for (int call = 0; call < 512; call++) {
                Method method = methods[random.nextInt(methods.length)];
                if (Modifier.isPublic(method.getModifiers())) {
                    callWild(check, x, method, random);
                }
            }
        }
        check.end();
    }

    private static void callWild(Check check, SlowWorlds x, Method method, Random random) throws Exception {
        Object[] given = new Object[method.getParameterCount()];
        for (int i = 0; i < given.length; i++) {
            int number = random.nextInt(3) == 0 ? random.nextInt(7) : WILD[random.nextInt(WILD.length)];
            given[i] = method.getParameterTypes()[i] == long.class ? (Object) (long) number : (Object) number;
        }
        int ahead = x.status();
        String what = method.getName() + Arrays.toString(given);
        Object got;
        try {
            got = method.invoke(x, given);
        } catch (ReflectiveOperationException thrown) {
            check.isTrue(what + " threw " + thrown.getCause(), false);
            return;
        }
        int status = x.status();
        String name = method.getName();
        if (name.equals("status") || name.equals("top") || name.equals("bottom") || name.equals("feed") || name.equals("fault")) {
            check.same(what + " has no status", status, ahead);
            return;
        }
        check.isTrue(what + " status " + status, status >= 0 && status <= 9 && status != 7);
        if (status != 0) {
            long answer = got instanceof Boolean is ? is ? 1 : -1 : ((Number) got).longValue();
            check.same(what + " refused", answer, -1);
        } else if (got instanceof Boolean is) {
            check.isTrue(what + " granted", is);
        }
        check.isTrue("bottom above 0", x.bottom() > 0);
    }
}
