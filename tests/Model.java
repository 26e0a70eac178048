import java.util.ArrayList;
import java.util.HashMap;
import java.util.List;
import java.util.Map;
import java.util.Set;
import java.util.TreeSet;
import java.util.function.IntPredicate;

/**
 * A second SlowWorlds, written straight from the document's words with no regard for speed or room,
 * by other ways than the class wherever there are others: texts by a tree, NEWS week by week, and so on.
 * Each call answers like that of the same name; booleans as 1 and 0. Refusals are exceptions inside.
 */
final class Model {
    static final int NEVER = Integer.MAX_VALUE;

    /** A refused call. */
    private static final class Refused extends RuntimeException {
        private static final long serialVersionUID = 1;
        final int status;

        Refused(int status) {
            this.status = status;
        }
    }

    /** A FAULT of a text. */
    private static final class Fault extends RuntimeException {
        private static final long serialVersionUID = 1;
        final int kind;
        final int place;

        Fault(int kind, int place) {
            this.kind = kind;
            this.place = place;
        }
    }

    /** Ends the YEARS: by stop, or as there are too many STEPS. */
    private static final class Stop extends RuntimeException {
        private static final long serialVersionUID = 1;
    }

    private record Token(char kind, String text, int place) { }

    private record Rock(String name, int[] facts, boolean wears) { }

    private record Order(int giver, int week) { }

    /** A STEP: its WORD and what stands behind it, and the STEPS within. */
    private record Step(String word, List<String> rest, List<Step> body) { }

    /** What a MARK keeps. */
    private record Kept(List<Rock> rocks, List<int[]> ices, int law, List<boolean[]> fashions, List<Order> orders,
            List<Step> steps, int stepCount) { }

    int status = 0;
    long top = 0;
    long bottom = 1;
    private int faultKind = -1;
    private int faultPlace = -1;
    private String tape = "";
    private final long[][] trays = new long[4][];
    private final int[] sorts = new int[4];
    private List<Rock> rocks = new ArrayList<>();
    private List<int[]> ices = new ArrayList<>();
    private int law = 0;
    /** One row a WEEK from 0 to now. */
    private List<boolean[]> fashions = new ArrayList<>(List.of(new boolean[0]));
    private List<Order> orders = new ArrayList<>();
    private List<Step> steps = null;
    private int stepCount = 0;
    private final List<Kept> marks = new ArrayList<>();
    private int[] lived = null;
    // Of the YEARS that are being lived.
    private int done;
    private int missed;
    private int weeks;
    private int turned;
    private int ordered;
    private int left;
    private int drawn;

    int rockCount() {
        return rocks.size();
    }

    int orderCount() {
        return orders.size();
    }

    long call(String name, long[] a) {
        try {
            long answer = answer(name, a);
            if (!Set.of("status", "top", "bottom", "feed", "fault").contains(name)) {
                status = 0;
            }
            return answer;
        } catch (Refused refused) {
            status = refused.status;
            return Set.of("tray", "write", "pour", "meanPrice", "wear", "mean").contains(name) ? 0 : -1;
        }
    }

    private long answer(String name, long[] v) {
        int[] a = new int[5];
        for (int i = 0; i < v.length; i++) {
            a[i] = (int) v[i];
        }
        switch (name) {
            case "status": return status;
            case "top": return top;
            case "bottom": return bottom;
            case "tray": return tray(a[0], a[1], a[2]);
            case "write": return write(a[0], a[1], v[2]);
            case "read": return read(a[0], a[1]);
            case "pour": return pour(a[0], a[1], a[2], a[3], a[4]);
            case "feed": return feed(a);
            case "sky": return sky(a[0]);
            case "years": return years(a[0]);
            case "fault": return a[0] == 0 ? faultKind : a[0] == 1 ? faultPlace : -1;
            case "told": return told(a[0]);
            case "rock": needRock(a[0]); need(a[1] >= 0 && a[1] < 6); return rocks.get(a[0]).facts[a[1]];
            case "ice": need(a[0] >= 0 && a[0] < ices.size() && a[1] >= 0 && a[1] < 4); return ices.get(a[0])[a[1]];
            case "direction": needRock(a[0]); needWeek(a[1], 500); return heading(a[0], a[1]);
            case "light": needRock(a[0]); needRock(a[2]); needWeek(a[1], 500); needWeek(a[3], 500);
                return lightOf(a[0], a[1], a[2], a[3]);
            case "iced": needCouple(a[0], a[1]); needWeek(a[2], 400); return isIced(a[0], a[1], a[2]) ? 1 : 0;
            case "arrives": needRock(a[0]); needRock(a[2]); needWeek(a[1], 400); return some(arrival(a[0], a[1], a[2]));
            case "ship": needRock(a[0]); needRock(a[2]); needWeek(a[1], 400); return landing(a[0], a[1], a[2]);
            case "sees": needRock(a[0]); needRock(a[1]); needWeek(a[2], 400); return some(look(a[0], a[1], a[2]));
            case "nearest": return nearest(a[0], a[1]);
            case "meetings": needCouple(a[0], a[1]); needWeek(a[2], 400); needWeek(a[3], 400); need(a[2] <= a[3]);
                return countWeeks(a[2], a[3], w -> heading(a[0], w) == heading(a[1], w));
            case "span": return span(a[0]);
            case "stale": needRock(a[0]); needRock(a[1]); needWeek(a[2], 400); return a[2] - some(look(a[0], a[1], a[2]));
            case "blind": needRock(a[0]); return countWeeks(0, 400, w -> seesNone(a[0], w));
            case "closest": needCouple(a[0], a[1]); needWeek(a[2], 400); need(a[3] >= 0 && a[3] <= 40);
                return firstWeek(a[2], 400, w -> lightOf(a[0], w, a[1], w) <= a[3]);
            default: return answerNews(name, a);
        }
    }

    private long answerNews(String name, int[] a) {
        switch (name) {
            case "knows": needNews(a); needRock(a[2]); return some(spread(a[0], a[1])[a[2]][0]);
            case "teller": needNews(a); needRock(a[2]); return some(spread(a[0], a[1])[a[2]][1]);
            case "hops": needNews(a); needRock(a[2]); return some(spread(a[0], a[1])[a[2]][2]);
            case "knowing": needNews(a); needWeek(a[2], 500);
                return setOf(r -> spread(a[0], a[1])[r][0] <= a[2]);
            case "overtaken": needNews(a);
                return setOf(r -> spread(a[0], a[1])[r][0] < arrival(a[0], a[1], r));
            case "early": return early(a[0], a[1], a[2]);
            case "latest": needNews(a); return latest(a[0], a[1]);
            case "centre": return centre(a[0]);
            case "cutOff": needNews(a); return setOf(r -> spread(a[0], a[1])[r][0] == NEVER);
            case "hearsBack": return hearsBack(a[0], a[1]);
            case "remote": return remote(a[0]);
            case "order": needRock(a[0]); refuse(orders.size() >= 20, 4);
                orders.add(new Order(a[0], now())); return orders.size() - 1;
            case "given": needOrder(a[0]); need(a[1] == 0 || a[1] == 1);
                return a[1] == 0 ? orders.get(a[0]).giver : orders.get(a[0]).week;
            case "heard": needOrder(a[0]); needRock(a[1]); return some(heardIn(a[0], a[1]));
            case "rules": needRock(a[0]); needWeek(a[1], 500); refuse(ruler(a[0], a[1]) < 0, 6); return ruler(a[0], a[1]);
            case "ruled": needOrder(a[0]); needWeek(a[1], 500); return setOf(r -> ruler(r, a[1]) == a[0]);
            case "before": return before(a[0], a[1], a[2]);
            case "oneForAll": needOrders(a[0], a[1]); return isOneForAll(a[0], a[1]) ? 1 : 0;
            case "disputes": return disputes();
            case "peace": needWeek(a[0], 500); return firstWeek(a[0], 500, this::isPeace);
            case "kth": return kth(a[0], a[1]);
            case "reign": needOrder(a[0]); needRock(a[1]); return countWeeks(0, 500, w -> ruler(a[1], w) == a[0]);
            case "idle": return idle();
            default: return answerRest(name, a);
        }
    }

    private long answerRest(String name, int[] a) {
        switch (name) {
            case "echo": needCouple(a[0], a[2]); needWeek(a[1], 400); return some(echo(a[0], a[1], a[2]));
            case "answered": return answered(a[0], a[1], a[2]);
            case "joint": return joint(a[0], a[1]);
            case "confirmed": return confirmed(a[0], a[1]);
            case "sure": needOrder(a[0]); needCouple(a[1], a[2]); return some(arrival(a[1], heardIn(a[0], a[1]), a[2]));
            case "cheap": needNews(a); needRock(a[2]); needWeek(a[3], 460);
                return some(cheap(a[0], a[1], a[2], a[3], new HashMap<>()));
            case "price": needRock(a[0]); needWeek(a[1], 500); return priceOf(a[0], a[1]);
            case "priceSeen": needRock(a[0]); needRock(a[1]); needWeek(a[2], 400);
                return priceOf(a[1], some(look(a[0], a[1], a[2])));
            case "gain": needCouple(a[0], a[2]); needWeek(a[1], 400); return gain(a[0], a[1], a[2]);
            case "hoped": needCouple(a[0], a[2]); needWeek(a[1], 400);
                return priceOf(a[2], some(look(a[0], a[2], a[1]))) - priceOf(a[0], a[1]);
            case "market": return market(a[0], a[1]);
            case "meanPrice": return meanPrice(a[0], a[1], a[2]);
            case "pass": need(a[0] >= 1 && a[0] <= 99); refuse(now() + a[0] > 400, 4); goBy(a[0]); return now();
            case "wore": needRock(a[0]); needWeek(a[1], now()); return fashions.get(a[1])[a[0]] ? 1 : 0;
            case "wear": needRock(a[0]); need(a[1] == 0 || a[1] == 1); fashions.get(now())[a[0]] = a[1] == 1; return 1;
            case "fashion": needCouple(a[0], a[1]);
                return fashions.get(some(look(a[0], a[1], now())))[a[1]] ? 1 : 0;
            case "follows": needCouple(a[0], a[1]); return follows(a[0], a[1]);
            case "model": return model(a[0]);
            case "changes": needRock(a[0]);
                return countWeeks(1, now(), w -> fashions.get(w)[a[0]] != fashions.get(w - 1)[a[0]]);
            case "uniform": return countWeeks(0, now(), this::isUniform);
            case "live": need(a[0] >= 0 && a[0] <= 9999); refuse(steps == null, 6); live(a[0]);
                lived = new int[] {missed, weeks, turned, ordered, left}; return done;
            case "lived": need(a[0] >= 0 && a[0] <= 4); refuse(lived == null, 6); return lived[a[0]];
            case "mean": return mean(a[0], a[1]);
            case "mark": refuse(marks.size() >= 3, 4); marks.add(keep()); return marks.size();
            case "back": refuse(marks.isEmpty(), 6); restore(marks.remove(marks.size() - 1)); return marks.size();
            default: throw new IllegalStateException(name);
        }
    }

    // ---- what can't be

    private static void refuse(boolean when, int status) {
        if (when) {
            throw new Refused(status);
        }
    }

    private static void need(boolean that) {
        refuse(!that, 1);
    }

    private void needRock(int rock) {
        need(rock >= 0 && rock < rocks.size());
    }

    private void needCouple(int a, int b) {
        needRock(a);
        needRock(b);
        need(a != b);
    }

    private static void needWeek(int week, int most) {
        need(week >= 0 && week <= most);
    }

    private void needNews(int[] a) {
        needRock(a[0]);
        needWeek(a[1], 400);
    }

    private void needOrder(int order) {
        need(order >= 0 && order < orders.size());
    }

    private void needOrders(int a, int b) {
        needOrder(a);
        needOrder(b);
        need(a != b);
    }

    private static int some(int value) {
        refuse(value == NEVER || value == -1, 6);
        return value;
    }

    private static int countWeeks(int from, int to, IntPredicate that) {
        int many = 0;
        for (int w = from; w <= to; w++) {
            many += that.test(w) ? 1 : 0;
        }
        return many;
    }

    private static int firstWeek(int from, int to, IntPredicate that) {
        for (int w = from; w <= to; w++) {
            if (that.test(w)) {
                return w;
            }
        }
        throw new Refused(6);
    }

    private int setOf(IntPredicate that) {
        int set = 0;
        for (int r = 0; r < rocks.size(); r++) {
            set += that.test(r) ? 1 << r : 0;
        }
        return set;
    }

    // ---- TRAYS

    private long tray(int tray, int sort, int many) {
        need(tray >= 0 && tray < 4 && sort >= 0 && sort < 4 && many >= 0 && many <= 60);
        trays[tray] = new long[many];
        sorts[tray] = sort;
        return 1;
    }

    private long write(int tray, int place, long v) {
        need(tray >= 0 && tray < 4);
        refuse(trays[tray] == null, 2);
        refuse(place < 0 || place >= trays[tray].length, 3);
        int shift = 64 - (8 << sorts[tray]);
        trays[tray][place] = v << shift >> shift;
        return 1;
    }

    private long read(int tray, int place) {
        need(tray >= 0 && tray < 4);
        refuse(trays[tray] == null, 2);
        refuse(place < 0 || place >= trays[tray].length, 3);
        return trays[tray][place];
    }

    private long pour(int from, int place, int to, int at, int many) {
        need(from >= 0 && from < 4 && to >= 0 && to < 4 && place >= 0 && at >= 0 && many >= 0);
        refuse(trays[from] == null || trays[to] == null, 2);
        refuse(sorts[from] != sorts[to], 8);
        refuse((long) place + many > trays[from].length || (long) at + many > trays[to].length, 3);
        long[] were = trays[from].clone();
        for (int i = 0; i < many; i++) {
            trays[to][at + i] = were[place + i];
        }
        return 1;
    }

    // ---- texts

    private long feed(int[] five) {
        if (tape.length() + 20 > 900) {
            return -1;
        }
        StringBuilder more = new StringBuilder(tape);
        for (int four : five) {
            more.append((char) (four >>> 24)).append((char) (four >> 16 & 255)).append((char) (four >> 8 & 255))
                    .append((char) (four & 255));
        }
        tape = more.toString();
        return tape.length();
    }

    private static final Set<String> KEYWORDS = Set.of("rock", "far", "round", "at", "rank", "price", "swing", "wears", "ice",
            "from", "to", "law", "first", "last", "sent", "week", "wear", "order", "chance", "when", "rules", "in", "loop",
            "end", "stop");

    private List<Token> tokens;
    private int next;

    /** All TOKENS at once; one that is none is of kind '?', the end of kind '.'. */
    private static List<Token> cut(String text) {
        List<Token> all = new ArrayList<>();
        int at = 0;
        while (at < text.length()) {
            String rest = text.substring(at);
            String word = rest.replaceFirst("(?s)^([a-z]*).*", "$1");
            String number = rest.replaceFirst("(?s)^([0-9]*).*", "$1");
            char sign = rest.charAt(0);
            if (sign == ' ' || sign == '\n') {
                at++;
            } else if (!word.isEmpty()) {
                all.add(new Token('w', word, at));
                at += word.length();
            } else if (!number.isEmpty()) {
                all.add(new Token(number.length() > 4 ? '?' : 'n', number, at));
                at += number.length();
            } else {
                all.add(new Token(";<>=".indexOf(sign) >= 0 ? 's' : '?', rest.substring(0, 1), at));
                at++;
            }
        }
        all.add(new Token('.', "", text.length()));
        return all;
    }

    private Token here() {
        return tokens.get(next);
    }

    private Fault fault(int kind) {
        return new Fault(here().kind == '?' ? 1 : kind, here().place);
    }

    private boolean stands(String text) {
        return here().text.equals(text) && here().kind != '?';
    }

    private void take(String text) {
        if (!stands(text)) {
            throw fault(2);
        }
        next++;
    }

    private int takeNumber(int least, int most) {
        if (here().kind != 'n') {
            throw fault(2);
        }
        int number = Integer.parseInt(here().text);
        if (number < least || number > most) {
            throw fault(4);
        }
        next++;
        return number;
    }

    private String takeName() {
        if (here().kind != 'w' || here().text.length() > 8 || KEYWORDS.contains(here().text)) {
            throw fault(2);
        }
        return here().text;
    }

    private static int indexOf(List<Rock> among, String name) {
        for (int r = 0; r < among.size(); r++) {
            if (among.get(r).name.equals(name)) {
                return r;
            }
        }
        return -1;
    }

    private int takeRock(List<Rock> among, int not) {
        int rock = indexOf(among, takeName());
        if (rock < 0) {
            throw fault(3);
        }
        if (rock == not) {
            throw fault(5);
        }
        next++;
        return rock;
    }

    private long sky(int n) {
        need(n >= 0 && n <= tape.length());
        tokens = cut(tape.substring(0, n));
        next = 0;
        tape = "";
        List<Rock> newRocks = new ArrayList<>();
        List<int[]> newIces = new ArrayList<>();
        int newLaw = -1;
        try {
            while (here().kind != '.') {
                if (stands("rock")) {
                    readRock(newRocks);
                } else if (stands("ice")) {
                    readIce(newRocks, newIces);
                } else if (stands("law")) {
                    if (newLaw >= 0) {
                        throw fault(5);
                    }
                    next++;
                    newLaw = List.of("first", "last", "rank", "sent").indexOf(here().text);
                    if (newLaw < 0) {
                        throw fault(2);
                    }
                    next++;
                    take(";");
                } else {
                    throw fault(2);
                }
            }
        } catch (Fault fault) {
            faultKind = fault.kind;
            faultPlace = fault.place;
            throw new Refused(9);
        }
        faultKind = 0;
        faultPlace = -1;
        rocks = newRocks;
        ices = newIces;
        law = Math.max(0, newLaw);
        boolean[] wears = new boolean[rocks.size()];
        for (int r = 0; r < wears.length; r++) {
            wears[r] = rocks.get(r).wears;
        }
        fashions = new ArrayList<>(List.of(wears));
        orders = new ArrayList<>();
        steps = null;
        return rocks.size();
    }

    private void readRock(List<Rock> into) {
        if (into.size() == 6) {
            throw fault(6);
        }
        next++;
        String name = takeName();
        if (indexOf(into, name) >= 0) {
            throw fault(3);
        }
        next++;
        int[] facts = new int[6];
        take("far");
        facts[0] = takeNumber(0, 20);
        take("round");
        facts[1] = takeNumber(1, 99);
        take("at");
        facts[2] = takeNumber(0, 11);
        if (stands("rank")) {
            next++;
            facts[3] = takeNumber(0, 9);
        }
        if (stands("price")) {
            next++;
            facts[4] = takeNumber(0, 99);
            if (stands("swing")) {
                next++;
                facts[5] = takeNumber(0, 20);
            }
        }
        boolean wears = stands("wears");
        next += wears ? 1 : 0;
        take(";");
        into.add(new Rock(name, facts, wears));
    }

    private void readIce(List<Rock> among, List<int[]> into) {
        if (into.size() == 8) {
            throw fault(6);
        }
        next++;
        int one = takeRock(among, -1);
        int other = takeRock(among, one);
        take("from");
        int from = takeNumber(0, 400);
        take("to");
        int to = takeNumber(from, 400);
        take(";");
        into.add(new int[] {one, other, from, to});
    }

    private int counted;

    private long years(int n) {
        need(n >= 0 && n <= tape.length() && n <= 300);
        tokens = cut(tape.substring(0, n));
        next = 0;
        tape = "";
        counted = 0;
        try {
            List<Step> all = readSteps(0);
            if (here().kind != '.') {
                throw fault(2);
            }
            steps = all;
            stepCount = counted;
        } catch (Fault fault) {
            faultKind = fault.kind;
            faultPlace = fault.place;
            throw new Refused(9);
        }
        faultKind = 0;
        faultPlace = -1;
        return stepCount;
    }

    /** Up to an end or the text's end. */
    private List<Step> readSteps(int depth) {
        List<Step> all = new ArrayList<>();
        while (here().kind != '.' && !stands("end")) {
            String word = here().text;
            if (!Set.of("week", "wear", "order", "chance", "when", "loop", "stop").contains(word)) {
                throw fault(2);
            }
            counted++;
            if (counted == 31) {
                throw fault(6);
            }
            boolean holds = word.equals("when") || word.equals("loop");
            if (holds && depth == 3) {
                throw fault(7);
            }
            next++;
            List<String> rest = readRest(word);
            take(";");
            List<Step> body = List.of();
            if (holds) {
                body = readSteps(depth + 1);
                take("end");
                take(";");
            }
            all.add(new Step(word, rest, body));
        }
        return all;
    }

    private List<String> readRest(String word) {
        int from = next;
        switch (word) {
            case "week":
            case "loop":
                takeNumber(1, 99);
                break;
            case "wear":
                takeRock(rocks, -1);
                takeNumber(0, 1);
                break;
            case "order":
                takeRock(rocks, -1);
                break;
            case "chance":
                takeNumber(0, 16);
                break;
            case "when":
                readTest();
                break;
            default:
                break;
        }
        return tokens.subList(from, next).stream().map(Token::text).toList();
    }

    private void readTest() {
        if (stands("week")) {
            next++;
            if (!stands("<") && !stands(">") && !stands("=")) {
                throw fault(2);
            }
            next++;
            takeNumber(0, 400);
        } else if (stands("wears")) {
            next++;
            takeRock(rocks, -1);
        } else {
            take("rules");
            takeRock(rocks, -1);
            take("in");
            takeRock(rocks, -1);
        }
    }

    private long told(int what) {
        switch (what) {
            case 0: return rocks.size();
            case 1: return ices.size();
            case 2: return law;
            case 3: return now();
            case 4: return orders.size();
            case 5: return setOf(r -> fashions.get(now())[r]);
            default: throw new Refused(1);
        }
    }

    // ---- where, how far

    private int now() {
        return fashions.size() - 1;
    }

    private int heading(int rock, int week) {
        int[] f = rocks.get(rock).facts;
        return Math.floorMod(f[2] + Math.floorDiv(12 * week, f[1]), 12);
    }

    private int lightOf(int a, int week, int b, int then) {
        if (a == b) {
            return 0;
        }
        int farA = rocks.get(a).facts[0];
        int farB = rocks.get(b).facts[0];
        int up = Math.floorMod(heading(a, week) - heading(b, then), 12);
        int down = Math.floorMod(heading(b, then) - heading(a, week), 12);
        int light = Math.max(farA, farB) - Math.min(farA, farB) + Math.min(up, down) * Math.min(farA, farB) / 6;
        return light < 1 ? 1 : light;
    }

    private boolean isIced(int a, int b, int week) {
        return ices.stream().anyMatch(i -> Set.of(i[0], i[1]).equals(Set.of(a, b)) && i[2] <= week && week <= i[3]);
    }

    private final Map<Integer, Integer> arrivals = new HashMap<>();
    private List<Rock> arrivalsOf = null;

    /** NEVER if it does not arrive; kept, as the model's other parts ask very often. */
    private int arrival(int a, int week, int b) {
        if (week > 400) {
            return NEVER;
        }
        if (a == b) {
            return week;
        }
        if (arrivalsOf != rocks) {
            arrivals.clear();
            arrivalsOf = rocks;
        }
        return arrivals.computeIfAbsent((a * 6 + b) * 401 + week, k -> isIced(a, b, week) ? NEVER : trip(a, week, b, 1));
    }

    private int trip(int a, int week, int b, int slow) {
        for (int t = week;; t++) {
            if (slow * lightOf(a, week, b, t) <= t - week) {
                return t;
            }
        }
    }

    private int landing(int a, int week, int b) {
        return trip(a, week, b, 10);
    }

    /** -1 if nothing is seen. */
    private int look(int rock, int other, int week) {
        int sent = week;
        while (sent >= 0 && arrival(other, sent, rock) > week) {
            sent--;
        }
        return sent;
    }

    private boolean seesNone(int rock, int week) {
        return setOf(o -> o != rock && look(rock, o, week) >= 0) == 0;
    }

    private long nearest(int rock, int week) {
        needRock(rock);
        needWeek(week, 400);
        for (int light = 0; light <= 40; light++) {
            for (int other = 0; other < rocks.size(); other++) {
                if (other != rock && lightOf(rock, week, other, week) == light) {
                    return other;
                }
            }
        }
        throw new Refused(6);
    }

    private long span(int week) {
        needWeek(week, 500);
        int most = 0;
        for (int a = 0; a < rocks.size(); a++) {
            for (int b = 0; b < rocks.size(); b++) {
                most = Math.max(most, lightOf(a, week, b, week));
            }
        }
        return most;
    }

    // ---- NEWS

    /** For each ROCK: the WEEK (NEVER), the teller (-1), the hops (-1); told WEEK by WEEK. */
    private int[][] spread(int from, int week) {
        int[][] rows = new int[rocks.size()][];
        for (int r = 0; r < rows.length; r++) {
            rows[r] = new int[] {NEVER, -1, -1};
        }
        rows[from] = new int[] {week, -1, 0};
        for (int w = week + 1; w <= 500; w++) {
            for (int r = 0; r < rows.length; r++) {
                for (int s = 0; s < rows.length && rows[r][0] == NEVER; s++) {
                    if (rows[s][0] < w && arrival(s, rows[s][0], r) == w) {
                        rows[r] = new int[] {w, s, rows[s][2] + 1};
                    }
                }
            }
        }
        return rows;
    }

    private long early(int from, int week, int tray) {
        needRock(from);
        needWeek(week, 400);
        need(tray >= 0 && tray < 4);
        refuse(trays[tray] == null, 2);
        refuse(trays[tray].length < rocks.size(), 3);
        for (int r = 0; r < rocks.size(); r++) {
            refuse(trays[tray][r] < 0 || trays[tray][r] > 500, 5);
        }
        int[][] rows = spread(from, week);
        return setOf(r -> trays[tray][r] < rows[r][0]);
    }

    private int latest(int from, int week) {
        int[][] rows = spread(from, week);
        int last = 0;
        for (int r = rows.length - 1; r >= 0; r--) {
            refuse(rows[r][0] == NEVER, 6);
            last = r == rows.length - 1 || rows[r][0] >= rows[last][0] ? r : last;
        }
        return last;
    }

    private long centre(int week) {
        needWeek(week, 400);
        int all = (1 << rocks.size()) - 1;
        int best = -1;
        int least = NEVER;
        for (int from = rocks.size() - 1; from >= 0; from--) {
            int[][] rows = spread(from, week);
            int by = week;
            while (by <= 500 && knowingBy(rows, by) != all) {
                by++;
            }
            if (by <= 500 && by <= least) {
                least = by;
                best = from;
            }
        }
        return some(best);
    }

    private int knowingBy(int[][] rows, int by) {
        return setOf(r -> rows[r][0] <= by);
    }

    private long hearsBack(int from, int week) {
        needRock(from);
        needWeek(week, 400);
        int[][] rows = spread(from, week);
        int first = NEVER;
        for (int r = 0; r < rows.length; r++) {
            if (r != from && rows[r][0] != NEVER) {
                first = Math.min(first, arrival(r, rows[r][0], from));
            }
        }
        return some(first);
    }

    private long remote(int week) {
        needWeek(week, 400);
        refuse(rocks.isEmpty(), 6);
        long[] sums = new long[rocks.size()];
        for (int from = 0; from < sums.length; from++) {
            int[][] rows = spread(from, week);
            for (int r = 0; r < sums.length; r++) {
                sums[r] += rows[r][0] == NEVER ? 100000 : rows[r][0];
            }
        }
        int best = 0;
        for (int r = 1; r < sums.length; r++) {
            best = sums[r] > sums[best] ? r : best;
        }
        return best;
    }

    // ---- ORDERS

    private final Map<List<Integer>, int[]> heardRows = new HashMap<>();
    private List<Rock> heardOf = null;

    private int heardIn(int order, int rock) {
        if (heardOf != rocks) {
            heardRows.clear();
            heardOf = rocks;
        }
        Order o = orders.get(order);
        return heardRows.computeIfAbsent(List.of(o.giver, o.week), k -> {
            int[][] rows = spread(o.giver, o.week);
            int[] weeksOf = new int[rows.length];
            for (int r = 0; r < rows.length; r++) {
                weeksOf[r] = rows[r][0];
            }
            return weeksOf;
        })[rock];
    }

    /** The ORDERS that a ROCK ever KNOWS, as it comes to KNOW them. */
    private List<Integer> inOrder(int rock) {
        List<Integer> all = new ArrayList<>();
        for (int o = 0; o < orders.size(); o++) {
            if (heardIn(o, rock) != NEVER) {
                all.add(o);
            }
        }
        all.sort((p, q) -> Integer.compare(heardIn(p, rock), heardIn(q, rock)));
        return all;
    }

    private int ruler(int rock, int week) {
        List<Integer> all = new ArrayList<>();
        for (int o = 0; o < orders.size(); o++) {
            if (heardIn(o, rock) <= week) {
                all.add(o);
            }
        }
        all.sort((p, q) -> {
            switch (law) {
                case 0: return Integer.compare(heardIn(p, rock), heardIn(q, rock));
                case 1: return Integer.compare(heardIn(q, rock), heardIn(p, rock));
                case 2: return Integer.compare(rankOf(q), rankOf(p));
                default: return Integer.compare(orders.get(p).week, orders.get(q).week);
            }
        });
        return all.isEmpty() ? -1 : all.get(0);
    }

    private int rankOf(int order) {
        return rocks.get(orders.get(order).giver).facts[3];
    }

    private long before(int a, int b, int rock) {
        needOrders(a, b);
        needRock(rock);
        int one = heardIn(a, rock);
        int other = heardIn(b, rock);
        refuse(one == NEVER && other == NEVER, 6);
        return one < other ? 0 : one > other ? 1 : 2;
    }

    private boolean isOneForAll(int a, int b) {
        Set<Integer> ways = new TreeSet<>();
        for (int r = 0; r < rocks.size(); r++) {
            if (heardIn(a, r) != NEVER && heardIn(b, r) != NEVER) {
                ways.add(Integer.compare(heardIn(a, r), heardIn(b, r)));
            }
        }
        return ways.size() < 2;
    }

    private long disputes() {
        int many = 0;
        for (int a = 0; a < orders.size(); a++) {
            for (int b = 0; b < a; b++) {
                many += isOneForAll(a, b) ? 0 : 1;
            }
        }
        return many;
    }

    private boolean isPeace(int week) {
        Set<Integer> rulers = new TreeSet<>();
        for (int r = 0; r < rocks.size(); r++) {
            rulers.add(ruler(r, week));
        }
        return rulers.size() == 1 && !rulers.contains(-1);
    }

    private long kth(int rock, int k) {
        needRock(rock);
        need(k >= 0);
        List<Integer> all = inOrder(rock);
        refuse(k >= all.size(), 6);
        return all.get(k);
    }

    private long idle() {
        Set<Integer> rulers = new TreeSet<>();
        for (int r = 0; r < rocks.size(); r++) {
            for (int w = 0; w <= 500 && !orders.isEmpty(); w++) {
                rulers.add(ruler(r, w));
            }
        }
        rulers.remove(-1);
        return orders.size() - rulers.size();
    }

    // ---- ECHOES, plans

    private int echo(int a, int week, int b) {
        int there = arrival(a, week, b);
        return there == NEVER ? NEVER : arrival(b, there, a);
    }

    private long answered(int a, int b, int by) {
        needCouple(a, b);
        needWeek(by, 500);
        int best = -1;
        for (int w = 0; w <= 400; w++) {
            best = echo(a, w, b) <= by ? w : best;
        }
        return some(best);
    }

    private void needSet(int set) {
        need(set >= 1 && set < Math.pow(2, rocks.size()));
    }

    private long joint(int order, int set) {
        needOrder(order);
        needSet(set);
        int last = 0;
        for (int r = 0; r < rocks.size(); r++) {
            last = (set & 1 << r) != 0 ? Math.max(last, heardIn(order, r)) : last;
        }
        return some(last);
    }

    private long confirmed(int order, int set) {
        needOrder(order);
        needSet(set);
        int giver = orders.get(order).giver;
        int last = orders.get(order).week;
        for (int r = 0; r < rocks.size(); r++) {
            if ((set & 1 << r) != 0 && r != giver) {
                last = Math.max(last, arrival(r, heardIn(order, r), giver));
            }
        }
        return some(last);
    }

    private int cheap(int rock, int week, int to, int by, Map<Integer, Integer> found) {
        if (week > by) {
            return NEVER;
        }
        if (rock == to) {
            return 0;
        }
        Integer known = found.get(week * 6 + rock);
        if (known != null) {
            return known;
        }
        int least = NEVER;
        for (int other = 0; other < rocks.size(); other++) {
            int then = other == rock ? NEVER : arrival(rock, week, other);
            int rest = then == NEVER ? NEVER : cheap(other, then, to, by, found);
            least = rest == NEVER ? least : Math.min(least, rest + (then - week) * (then - week));
        }
        found.put(week * 6 + rock, least);
        return least;
    }

    // ---- PRICES

    private int priceOf(int rock, int week) {
        return rocks.get(rock).facts[4] + rocks.get(rock).facts[5] * heading(rock, week);
    }

    private int gain(int a, int week, int b) {
        return priceOf(b, landing(a, week, b)) - priceOf(a, week);
    }

    private long market(int a, int week) {
        needRock(a);
        needWeek(week, 400);
        refuse(rocks.size() == 1, 6);
        int best = -1;
        for (int b = rocks.size() - 1; b >= 0; b--) {
            best = b != a && (best < 0 || gain(a, week, b) >= gain(a, week, best)) ? b : best;
        }
        return best;
    }

    private void tellFraction(long sum, long many) {
        for (long divisor = many; divisor >= 1; divisor--) {
            if (sum % divisor == 0 && many % divisor == 0) {
                top = sum / divisor;
                bottom = many / divisor;
                return;
            }
        }
    }

    private long meanPrice(int rock, int from, int to) {
        needRock(rock);
        needWeek(from, 500);
        needWeek(to, 500);
        need(from <= to);
        long sum = 0;
        for (int w = from; w <= to; w++) {
            sum += priceOf(rock, w);
        }
        tellFraction(sum, to - from + 1);
        return 1;
    }

    // ---- fashions, YEARS

    private int goBy(int many) {
        for (int gone = 0; gone < many; gone++) {
            if (now() == 400) {
                return gone;
            }
            int week = now() + 1;
            boolean[] worn = new boolean[rocks.size()];
            for (int r = 0; r < worn.length; r++) {
                int newer = 0;
                int older = 0;
                for (int o = 0; o < worn.length; o++) {
                    int seen = o == r ? -1 : look(r, o, week);
                    newer += seen >= 0 && fashions.get(seen)[o] ? 1 : 0;
                    older += seen >= 0 && !fashions.get(seen)[o] ? 1 : 0;
                }
                worn[r] = newer > older ? true : newer < older ? false : fashions.get(week - 1)[r];
            }
            fashions.add(worn);
        }
        return many;
    }

    private int follows(int rock, int other) {
        return countWeeks(1, now(), w -> {
            int seen = look(rock, other, w);
            return seen >= 0 && fashions.get(w)[rock] == fashions.get(seen)[other];
        });
    }

    private long model(int rock) {
        needRock(rock);
        refuse(rocks.size() == 1, 6);
        int best = -1;
        for (int o = 0; o < rocks.size(); o++) {
            best = o != rock && (best < 0 || follows(rock, o) > follows(rock, best)) ? o : best;
        }
        return best;
    }

    private boolean isUniform(int week) {
        int set = setOf(r -> fashions.get(week)[r]);
        return set == 0 || Integer.bitCount(set) == rocks.size();
    }

    private void live(int seed) {
        done = 0;
        missed = 0;
        weeks = 0;
        turned = 0;
        ordered = 0;
        left = 0;
        drawn = seed;
        try {
            doAll(steps);
        } catch (Stop stop) {
            // The YEARS are at their end.
        }
    }

    private void doAll(List<Step> all) {
        for (Step step : all) {
            if (done == 200) {
                left = 1;
                throw new Stop();
            }
            done++;
            doStep(step);
        }
    }

    private void doStep(Step step) {
        List<String> rest = step.rest;
        switch (step.word) {
            case "week":
                int many = Integer.parseInt(rest.get(0));
                int gone = goBy(many);
                weeks += gone;
                missed += gone < many ? 1 : 0;
                break;
            case "wear":
                fashions.get(now())[indexOf(rocks, rest.get(0))] = Integer.parseInt(rest.get(1)) == 1;
                break;
            case "order":
                if (orders.size() == 20) {
                    missed++;
                } else {
                    orders.add(new Order(indexOf(rocks, rest.get(0)), now()));
                    ordered++;
                }
                break;
            case "chance":
                for (int r = 0; r < rocks.size(); r++) {
                    drawn = (drawn * 2893 + 11093) & 65535;
                    if ((drawn >> 3 & 15) < Integer.parseInt(rest.get(0))) {
                        fashions.get(now())[r] = !fashions.get(now())[r];
                        turned++;
                    }
                }
                break;
            case "when":
                if (holds(rest)) {
                    doAll(step.body);
                }
                break;
            case "loop":
                for (int i = 0; i < Integer.parseInt(rest.get(0)); i++) {
                    doAll(step.body);
                }
                break;
            default:
                throw new Stop();
        }
    }

    private boolean holds(List<String> test) {
        if (test.get(0).equals("wears")) {
            return fashions.get(now())[indexOf(rocks, test.get(1))];
        }
        if (test.get(0).equals("rules")) {
            int ruler = ruler(indexOf(rocks, test.get(3)), now());
            return ruler >= 0 && orders.get(ruler).giver == indexOf(rocks, test.get(1));
        }
        int way = Integer.compare(now(), Integer.parseInt(test.get(2)));
        return test.get(1).equals(way < 0 ? "<" : way > 0 ? ">" : "=");
    }

    private long mean(int seed, int many) {
        need(seed >= 0 && seed <= 9999 && many >= 1 && many <= 10 && seed + many - 1 <= 9999);
        refuse(steps == null, 6);
        int[] livedAhead = lived;
        long sum = 0;
        for (int s = seed; s < seed + many; s++) {
            Kept ahead = keep();
            live(s);
            sum += setOf(r -> fashions.get(now())[r]) == 0 ? 0 : Long.bitCount(told(5));
            restore(ahead);
        }
        lived = livedAhead;
        tellFraction(sum, many);
        return 1;
    }

    // ---- MARKS

    private Kept keep() {
        List<boolean[]> copies = new ArrayList<>();
        for (boolean[] row : fashions) {
            copies.add(row.clone());
        }
        return new Kept(rocks, ices, law, copies, new ArrayList<>(orders), steps, stepCount);
    }

    private void restore(Kept kept) {
        rocks = kept.rocks;
        ices = kept.ices;
        law = kept.law;
        fashions = kept.fashions;
        orders = kept.orders;
        steps = kept.steps;
        stepCount = kept.stepCount;
    }
}
