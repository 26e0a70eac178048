import java.lang.reflect.Method;
import java.nio.charset.StandardCharsets;
import java.util.ArrayList;
import java.util.Arrays;
import java.util.HashMap;
import java.util.List;
import java.util.Map;
import java.util.Random;

/** Random runs of calls, each answer and STATUS held against the plain second model. */
public final class ModelTests {
    /**
     * The calls and what their numbers are: r a ROCK, w a WEEK to 400, W to 500, o an ORDER, t a TRAY, p a place,
     * k a small number, g a sort, l LIGHT, s a set, b a WEEK to 460, n weeks, x 0 or 1, d a seed, m many, v any number.
     */
    private static final String CALLS = "status: top: bottom: tray:tgp tray:tgp tray:tgp write:tpv write:tpv write:tpv read:tp pour:tptpp pour:tptpp fault:k told:k rock:rk ice:kk "
            + "direction:rW light:rWrW iced:rrw arrives:rwr ship:rwr sees:rrw nearest:rw meetings:rrww span:W stale:rrw blind:r "
            + "closest:rrwl knows:rwr teller:rwr hops:rwr knowing:rwW overtaken:rw early:rwt latest:rw centre:w cutOff:rw "
            + "hearsBack:rw remote:w order:r order:r order:r given:ok heard:or rules:rW ruled:oW before:oor oneForAll:oo disputes: "
            + "peace:W kth:ro reign:or idle: echo:rwr answered:rrW joint:os confirmed:os sure:orr cheap:rwrb price:rW "
            + "priceSeen:rrw gain:rwr hoped:rwr market:rw meanPrice:rWW pass:n pass:n pass:n wore:rw wear:rx wear:rx fashion:rr "
            + "follows:rr model:r changes:r uniform: live:d lived:k mean:dm mark: back: SKY: SKY: YEARS: YEARS: TAPE:";
    private static final String[] NAMES = {"a", "b", "c", "ab", "moon", "zzzzzzzz", "rocks", "weeks"};
    private static final String[] WORDS = ("rock far round at rank price swing wears ice from to law first last sent week wear "
            + "order chance when rules in loop end stop ; < > = 0 1 2 12 21 99 100 400 401 9999 12345 a b moon abcdefghi A _ ").split(" ");

    private final Map<String, Method> methods = new HashMap<>();
    private final List<String> told = new ArrayList<>();
    private final Check check = new Check();
    private Random random;
    private SlowWorlds x;
    private Model model;
    private boolean wrong;

    public static void main(String[] args) throws Exception {
        int runs = args.length > 0 ? Integer.parseInt(args[0]) : 400;
        int from = args.length > 1 ? Integer.parseInt(args[1]) : 0;
        ModelTests tests = new ModelTests();
        for (Method method : SlowWorlds.class.getDeclaredMethods()) {
            tests.methods.put(method.getName(), method);
        }
        for (int run = from; run < from + runs; run++) {
            tests.run(run);
        }
        tests.check.end();
    }

    private void run(int seed) throws Exception {
        random = new Random(seed);
        x = new SlowWorlds();
        model = new Model();
        told.clear();
        wrong = false;
        String[] calls = CALLS.split(" ");
        if (random.nextInt(20) != 0) {
            takeText("sky", skyText());
        }
        int many = 60 + random.nextInt(200);
        for (int i = 0; i < many && !wrong; i++) {
            String[] parts = calls[random.nextInt(calls.length)].split(":", 2);
            if (parts[0].equals("SKY")) {
                if (random.nextInt(4) == 0) {
                    takeText("sky", random.nextInt(3) == 0 ? damaged(skyText()) : skyText());
                }
            } else if (parts[0].equals("YEARS")) {
                takeText("years", random.nextInt(3) == 0 ? damaged(yearsText()) : yearsText());
            } else if (parts[0].equals("TAPE")) {
                call("feed", random.nextInt(), random.nextInt(), 0x20202020, random.nextInt(), 7);
                call(random.nextBoolean() ? "sky" : "years", random.nextInt(30) - 4);
            } else {
                long[] numbers = new long[parts[1].length()];
                for (int p = 0; p < numbers.length; p++) {
                    numbers[p] = numberOf(parts[1].charAt(p));
                }
                call(parts[0], numbers);
            }
        }
        if (wrong) {
            System.out.println("run " + seed + ":");
            told.forEach(row -> System.out.println("  " + row));
        }
    }

    private void call(String name, long... numbers) throws Exception {
        long due = model.call(name, numbers);
        Method method = methods.get(name);
        Object[] given = new Object[numbers.length];
        for (int i = 0; i < given.length; i++) {
            given[i] = method.getParameterTypes()[i] == long.class ? (Object) numbers[i] : (Object) (int) numbers[i];
        }
        Object got = method.invoke(x, given);
        long answer = got instanceof Boolean is ? is ? 1 : 0 : ((Number) got).longValue();
        told.add(name + Arrays.toString(numbers) + " = " + answer + " (" + x.status() + "), due " + due + " (" + model.status + ")");
        check.same(name + Arrays.toString(numbers), answer, due);
        check.same(name + Arrays.toString(numbers) + " status", x.status(), model.status);
        check.same("top", x.top(), model.top);
        check.same("bottom", x.bottom(), model.bottom);
        wrong = wrong || answer != due || x.status() != model.status || x.top() != model.top || x.bottom() != model.bottom;
    }

    private void takeText(String name, String text) throws Exception {
        told.add("text: " + text.replace("\n", "\\n"));
        byte[] bytes = Arrays.copyOf(text.getBytes(StandardCharsets.ISO_8859_1), (text.length() + 19) / 20 * 20);
        for (int at = 0; at < bytes.length; at += 20) {
            long[] five = new long[5];
            for (int i = 0; i < 20; i++) {
                five[i / 4] = (int) (five[i / 4] << 8 | bytes[at + i] & 255);
            }
            call("feed", five);
        }
        call(name, text.length());
        call("fault", 0);
        call("fault", 1);
        for (int what = 0; what < 6; what++) {
            call("told", what);
        }
    }

    private long numberOf(char kind) {
        boolean wild = random.nextInt(60) == 0;
        switch (kind) {
            case 'r': return wild ? random.nextInt(12) - 3 : random.nextInt(Math.max(1, model.rockCount()));
            case 'w': return weekTo(400, wild);
            case 'W': return weekTo(500, wild);
            case 'b': return weekTo(460, wild);
            case 'o': return wild ? random.nextInt(30) - 5 : random.nextInt(Math.max(1, model.orderCount()));
            case 't': return random.nextInt(20) == 0 ? random.nextInt(8) - 2 : random.nextInt(3);
            case 'p': return random.nextInt(20) == 0 ? random.nextInt(80) - 10 : random.nextInt(8);
            case 'k': return random.nextInt(8) - (wild ? 2 : 0);
            case 'g': return wild ? random.nextInt(8) - 2 : random.nextInt(5) == 0 ? random.nextInt(4) : 2;
            case 'l': return random.nextInt(wild ? 60 : 24) - (wild ? 5 : 0);
            case 's': return random.nextInt(wild ? 80 : 1 << model.rockCount());
            case 'n': return wild ? random.nextInt(120) - 5 : 1 + random.nextInt(random.nextInt(4) == 0 ? 99 : 12);
            case 'x': return random.nextInt(wild ? 4 : 2);
            case 'd': return wild ? random.nextInt(12000) - 1000 : random.nextInt(10000);
            case 'm': return wild ? random.nextInt(15) - 2 : 1 + random.nextInt(10);
            default: return random.nextInt(3) == 0 ? random.nextLong() : random.nextInt(520) - 5;
        }
    }

    private int weekTo(int most, boolean wild) {
        if (wild) {
            return random.nextInt(700) - 50;
        }
        switch (random.nextInt(4)) {
            case 0: return random.nextInt(30);
            case 1: return most - random.nextInt(25);
            case 2: return 370 + random.nextInt(31);
            default: return random.nextInt(most + 1);
        }
    }

    private String blank() {
        String[] blanks = {" ", " ", " ", "\n", "  ", " \n "};
        return blanks[random.nextInt(blanks.length)];
    }

    private String skyText() {
        StringBuilder text = new StringBuilder();
        int rocks = random.nextInt(10) == 0 ? random.nextInt(2) : 2 + random.nextInt(5);
        int farthest = random.nextInt(3) == 0 ? 20 : 1 + random.nextInt(20);
        int slowest = random.nextBoolean() ? 99 : 1 + random.nextInt(15);
        boolean lawFirst = random.nextBoolean();
        String[] laws = {"first", "last", "rank", "sent"};
        String law = random.nextInt(5) == 0 ? "" : "law" + blank() + laws[random.nextInt(4)] + ";";
        text.append(lawFirst ? law : "");
        for (int r = 0; r < rocks; r++) {
            text.append("rock ").append(NAMES[r]).append(blank()).append("far ").append(random.nextInt(farthest + 1));
            text.append(random.nextInt(9) == 0 ? "" : " ").append("round ").append(1 + random.nextInt(slowest));
            text.append(" at").append(random.nextInt(9) == 0 ? "" : " ").append(random.nextInt(12));
            text.append(random.nextBoolean() ? " rank " + random.nextInt(4) : "");
            text.append(random.nextInt(4) > 0 ? " price " + random.nextInt(100) : "");
            text.append(text.charAt(text.length() - 2) == 'e' || !text.toString().matches("(?s).*price [0-9]+$")
                    || random.nextInt(4) == 0 ? "" : " swing " + random.nextInt(21));
            text.append(random.nextBoolean() ? " wears" : "").append(random.nextInt(9) == 0 ? " ;" : ";");
        }
        int ices = rocks < 2 ? 0 : random.nextInt(3) == 0 ? random.nextInt(9) : random.nextInt(3);
        boolean always = random.nextInt(4) == 0;
        for (int i = 0; i < ices && text.length() < 840; i++) {
            int one = random.nextInt(rocks);
            int other = (one + 1 + random.nextInt(rocks - 1)) % rocks;
            int from = always ? 0 : random.nextInt(random.nextBoolean() ? 20 : 401);
            int to = always ? 400 : Math.min(400, from + random.nextInt(random.nextBoolean() ? 30 : 401));
            text.append("ice " + NAMES[one] + " " + NAMES[other] + blank() + "from " + from + " to " + to + ";");
        }
        text.append(lawFirst ? "" : law);
        return text.toString();
    }

    private String yearsText() {
        StringBuilder text = new StringBuilder();
        addSteps(text, 0, 1 + random.nextInt(9));
        return text.length() > 300 && random.nextInt(10) > 0 ? "week 3;chance 5;week 2;" : text.toString();
    }

    private void addSteps(StringBuilder text, int depth, int many) {
        int rocks = model.rockCount();
        for (int i = 0; i < many; i++) {
            String rock = NAMES[random.nextInt(Math.max(1, rocks))];
            String other = NAMES[random.nextInt(Math.max(1, rocks))];
            switch (rocks == 0 ? random.nextInt(3) : random.nextInt(9)) {
                case 0:
                    text.append("week ").append(1 + random.nextInt(random.nextInt(5) == 0 ? 99 : 9)).append(";");
                    break;
                case 1:
                    text.append("chance ").append(random.nextInt(17)).append(";");
                    break;
                case 2:
                case 3:
                    if (depth < 3) {
                        text.append("loop ").append(1 + random.nextInt(random.nextInt(4) == 0 ? 99 : 5)).append(";");
                        addSteps(text, depth + 1, random.nextInt(4));
                        text.append("end;");
                    }
                    break;
                case 4:
                    text.append("wear ").append(rock).append(blank()).append(random.nextInt(2)).append(";");
                    break;
                case 5:
                    text.append("order ").append(rock).append(";");
                    break;
                case 6:
                case 7:
                    if (depth < 3) {
                        String[] tests = {"week" + "<>=".charAt(random.nextInt(3)) + random.nextInt(random.nextBoolean() ? 20 : 401),
                            "wears " + rock, "rules " + rock + " in " + other};
                        text.append("when ").append(tests[random.nextInt(3)]).append(";");
                        addSteps(text, depth + 1, random.nextInt(4));
                        text.append("end;");
                    }
                    break;
                default:
                    text.append(random.nextInt(3) == 0 ? "stop;" : "");
            }
        }
    }

    /** The text with one to three TOKENS or bytes put in, left out, put in place of others. */
    private String damaged(String text) {
        String damaged = text;
        for (int i = random.nextInt(3); i >= 0 && !damaged.isEmpty(); i--) {
            int at = random.nextInt(damaged.length());
            int to = Math.min(damaged.length(), at + random.nextInt(8));
            switch (random.nextInt(5)) {
                case 4:
                    // Parts more than once: names, laws, rocks, ices, steps, beginnings that are too many.
                    String[] parts = damaged.split("(?<=;)");
                    String part = parts[random.nextInt(parts.length)];
                    parts[random.nextInt(parts.length)] += part.repeat(1 + random.nextInt(random.nextBoolean() ? 1 : 9));
                    damaged = String.join("", parts);
                    break;
                case 0:
                    damaged = damaged.substring(0, at) + damaged.substring(to);
                    break;
                case 1:
                    damaged = damaged.substring(0, at) + " " + WORDS[random.nextInt(WORDS.length)] + " " + damaged.substring(at);
                    break;
                case 2:
                    damaged = damaged.substring(0, at) + (char) random.nextInt(256) + damaged.substring(at);
                    break;
                default:
                    String[] tokens = damaged.split("(?<=[ ;\n])");
                    tokens[random.nextInt(tokens.length)] = WORDS[random.nextInt(WORDS.length)] + " ";
                    damaged = String.join("", tokens);
            }
        }
        return damaged.length() > 900 ? damaged.substring(0, 900) : damaged;
    }
}
