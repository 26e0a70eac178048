import java.util.Arrays;

/** Rocks round a dim star that hear of each other by light that takes weeks. */
public final class SlowWorlds {
    public static final int NONE = -1;

    // STATUSES of calls.
    private static final int FINE = 0;
    private static final int WRONG = 1;
    private static final int TRAY_MISSING = 2;
    private static final int NO_PLACE = 3;
    private static final int TOO_MANY = 4;
    private static final int WRONG_IN_TRAY = 5;
    private static final int NONE_SUCH = 6;
    private static final int UNLIKE_SORTS = 8;
    private static final int FAULTY = 9;

    // Limits of the document.
    private static final int TRAYS = 4;
    private static final int TRAY_PLACES = 60;
    private static final int TAPE_BYTES = 900;
    private static final int FED_BYTES = 20;
    private static final int YEARS_BYTES = 300;
    private static final int MOST_ROCKS = 6;
    private static final int MOST_ICES = 8;
    private static final int MOST_ORDERS = 20;
    private static final int MOST_MARKS = 3;
    private static final int MOST_STEPS = 30;
    private static final int MOST_DEPTH = 3;
    private static final int MOST_DONE = 200;
    private static final int LAST_WEEK = 400;
    private static final int LAST_TOLD_WEEK = 500;
    private static final int LAST_CHEAP_WEEK = 460;
    private static final int LAST_SEED = 9999;
    private static final int NEVER_COUNTS = 100000;

    /** No LIGHT is longer: it is at most the FAR of the farther ROCK. */
    private static final int MOST_LIGHT = 20;
    private static final int SHIP_SLOWNESS = 10;
    private static final int DIRECTIONS = 12;

    // What rock() tells of a ROCK.
    private static final int FACTS = 6;
    private static final int FAR = 0;
    private static final int ROUND = 1;
    private static final int AT = 2;
    private static final int RANK = 3;
    private static final int PRICE = 4;
    private static final int SWING = 5;

    // What ice() tells of ICE.
    private static final int ICE_FACTS = 4;
    private static final int ONE = 0;
    private static final int OTHER = 1;
    private static final int SINCE = 2;
    private static final int UNTIL = 3;

    private static final int LAW_FIRST = 0;
    private static final int LAW_LAST = 1;
    private static final int LAW_RANK = 2;
    private static final int LAW_SENT = 3;

    // The WORDS that are no NAMES, each by its number in this text.
    private static final String KEYWORDS = "rock far round at rank price swing wears ice from to law first last sent week wear order chance when rules in loop end stop ";
    private static final int KEYWORD_COUNT = 25;
    private static final int WORD_ROCK = 0;
    private static final int WORD_FAR = 1;
    private static final int WORD_ROUND = 2;
    private static final int WORD_AT = 3;
    private static final int WORD_RANK = 4;
    private static final int WORD_PRICE = 5;
    private static final int WORD_SWING = 6;
    private static final int WORD_WEARS = 7;
    private static final int WORD_ICE = 8;
    private static final int WORD_FROM = 9;
    private static final int WORD_TO = 10;
    private static final int WORD_LAW = 11;
    private static final int WORD_FIRST = 12;
    private static final int WORD_LAST = 13;
    private static final int WORD_SENT = 14;
    private static final int WORD_WEEK = 15;
    private static final int WORD_WEAR = 16;
    private static final int WORD_ORDER = 17;
    private static final int WORD_CHANCE = 18;
    private static final int WORD_WHEN = 19;
    private static final int WORD_RULES = 20;
    private static final int WORD_IN = 21;
    private static final int WORD_LOOP = 22;
    private static final int WORD_END = 23;
    private static final int WORD_STOP = 24;

    // Kinds of FAULTS.
    private static final int FAULT_NO_TOKEN = 1;
    private static final int FAULT_PLACE = 2;
    private static final int FAULT_NAME = 3;
    private static final int FAULT_NUMBER = 4;
    private static final int FAULT_TWICE = 5;
    private static final int FAULT_TOO_MANY = 6;
    private static final int FAULT_TOO_DEEP = 7;

    private final Tray[] trays = new Tray[TRAYS];
    private final World world = new World();
    /** Texts are read into it first, and mean() keeps there what must stay. */
    private final World spare = new World();
    private final World[] kept = new World[MOST_MARKS];
    private final Reader reader = new Reader();
    private final SkyReader skyReader = new SkyReader(reader);
    private final YearsReader yearsReader = new YearsReader(reader);
    private final Rays rays = new Rays(world.sky);
    private final News news = new News(world.sky, rays);
    private final Life life = new Life(world, rays, news);
    private final int[] livedLatest = new int[5];
    private boolean everLived;
    private int marks;
    private int outcome = FINE;
    private long upper = 0;
    private long lower = 1;

    public SlowWorlds() {
        for (int tray = 0; tray < TRAYS; tray++) {
            trays[tray] = new Tray();
        }
        for (int mark = 0; mark < MOST_MARKS; mark++) {
            kept[mark] = new World();
        }
    }

    public int status() {
        return outcome;
    }

    public long top() {
        return upper;
    }

    public long bottom() {
        return lower;
    }

    // ---- TRAYS

    public boolean tray(int tray, int sort, int many) {
        if (!isTray(tray) || !isWithin(sort, 3) || !isWithin(many, TRAY_PLACES)) {
            return deny(WRONG);
        }
        trays[tray].renew(sort, many);
        return grant();
    }

    public boolean write(int tray, int place, long v) {
        int why = wrongInPlace(tray, place);
        if (why != FINE) {
            return deny(why);
        }
        trays[tray].put(place, v);
        return grant();
    }

    public long read(int tray, int place) {
        int why = wrongInPlace(tray, place);
        if (why != FINE) {
            return refuse(why);
        }
        outcome = FINE;
        return trays[tray].numbers[place];
    }

    public boolean pour(int from, int place, int to, int at, int many) {
        if (!isTray(from) || !isTray(to) || place < 0 || at < 0 || many < 0) {
            return deny(WRONG);
        }
        Tray source = trays[from];
        Tray goal = trays[to];
        if (source.isMissing() || goal.isMissing()) {
            return deny(TRAY_MISSING);
        }
        if (source.sort != goal.sort) {
            return deny(UNLIKE_SORTS);
        }
        if (!source.hasPlaces(place, many) || !goal.hasPlaces(at, many)) {
            return deny(NO_PLACE);
        }
        System.arraycopy(source.numbers, place, goal.numbers, at, many);
        return grant();
    }

    // ---- texts

    public int feed(int a, int b, int c, int d, int e) {
        if (reader.taped > TAPE_BYTES - FED_BYTES) {
            return NONE;
        }
        reader.putOnTape(a);
        reader.putOnTape(b);
        reader.putOnTape(c);
        reader.putOnTape(d);
        reader.putOnTape(e);
        return reader.taped;
    }

    public int sky(int n) {
        if (!isWithin(n, reader.taped)) {
            return refuse(WRONG);
        }
        reader.open(n);
        boolean fine = skyReader.readInto(spare.sky);
        if (!fine) {
            return refuse(FAULTY);
        }
        world.begin(spare.sky);
        rays.forget();
        return answer(world.sky.rocks);
    }

    public int years(int n) {
        if (!isWithin(n, reader.taped) || n > YEARS_BYTES) {
            return refuse(WRONG);
        }
        reader.open(n);
        boolean fine = yearsReader.readInto(spare.years, world.sky);
        if (!fine) {
            return refuse(FAULTY);
        }
        world.years.copyFrom(spare.years);
        return answer(world.years.steps);
    }

    public int fault(int what) {
        if (what == 0) {
            return reader.faultKind;
        }
        return what == 1 ? reader.faultPlace : NONE;
    }

    public int told(int what) {
        switch (what) {
            case 0:
                return answer(world.sky.rocks);
            case 1:
                return answer(world.sky.ices);
            case 2:
                return answer(world.sky.law);
            case 3:
                return answer(world.course.week);
            case 4:
                return answer(world.course.orders);
            case 5:
                return answer(world.course.wornNow());
            default:
                return refuse(WRONG);
        }
    }

    public int rock(int rock, int what) {
        if (!isRock(rock) || !isWithin(what, FACTS - 1)) {
            return refuse(WRONG);
        }
        return answer(world.sky.fact(rock, what));
    }

    public int ice(int ice, int what) {
        if (!isWithin(ice, world.sky.ices - 1) || !isWithin(what, ICE_FACTS - 1)) {
            return refuse(WRONG);
        }
        return answer(world.sky.iceFacts[ice * ICE_FACTS + what]);
    }

    // ---- where, how far

    public int direction(int rock, int week) {
        if (!isRock(rock) || !isWithin(week, LAST_TOLD_WEEK)) {
            return refuse(WRONG);
        }
        return answer(world.sky.heading(rock, week));
    }

    public int light(int a, int week, int b, int then) {
        if (!isRock(a) || !isRock(b) || !isWithin(week, LAST_TOLD_WEEK) || !isWithin(then, LAST_TOLD_WEEK)) {
            return refuse(WRONG);
        }
        return answer(world.sky.lightBetween(a, week, b, then));
    }

    public int iced(int a, int b, int week) {
        if (!isCouple(a, b) || !isWeek(week)) {
            return refuse(WRONG);
        }
        return answer(world.sky.hasIce(a, b, week) ? 1 : 0);
    }

    public int arrives(int a, int week, int b) {
        if (!isRock(a) || !isRock(b) || !isWeek(week)) {
            return refuse(WRONG);
        }
        return answerIfAny(rays.arrival(a, week, b));
    }

    public int ship(int a, int week, int b) {
        if (!isRock(a) || !isRock(b) || !isWeek(week)) {
            return refuse(WRONG);
        }
        return answer(world.sky.landing(a, week, b));
    }

    public int sees(int rock, int other, int week) {
        if (!isRock(rock) || !isRock(other) || !isWeek(week)) {
            return refuse(WRONG);
        }
        return answerIfAny(rays.seen(rock, other, week));
    }

    public int nearest(int rock, int week) {
        if (!isRock(rock) || !isWeek(week)) {
            return refuse(WRONG);
        }
        int best = NONE;
        int least = 0;
        for (int other = 0; other < world.sky.rocks; other++) {
            int light = world.sky.lightBetween(rock, week, other, week);
            if (other != rock && (best == NONE || light < least)) {
                least = light;
                best = other;
            }
        }
        return answerIfAny(best);
    }

    public int meetings(int a, int b, int from, int to) {
        if (!isCouple(a, b) || !isWeek(from) || !isWeek(to) || to < from) {
            return refuse(WRONG);
        }
        int many = 0;
        for (int week = from; week <= to; week++) {
            if (world.sky.heading(a, week) == world.sky.heading(b, week)) {
                many++;
            }
        }
        return answer(many);
    }

    public int span(int week) {
        if (!isWithin(week, LAST_TOLD_WEEK)) {
            return refuse(WRONG);
        }
        int most = 0;
        for (int a = 0; a < world.sky.rocks; a++) {
            for (int b = a + 1; b < world.sky.rocks; b++) {
                most = Math.max(most, world.sky.lightBetween(a, week, b, week));
            }
        }
        return answer(most);
    }

    public int stale(int rock, int other, int week) {
        if (!isRock(rock) || !isRock(other) || !isWeek(week)) {
            return refuse(WRONG);
        }
        int seen = rays.seen(rock, other, week);
        return seen == NONE ? refuse(NONE_SUCH) : answer(week - seen);
    }

    public int blind(int rock) {
        if (!isRock(rock)) {
            return refuse(WRONG);
        }
        // Who saw something of another one once goes on to see it, so only the first arrival counts.
        int first = LAST_WEEK + 1;
        for (int other = 0; other < world.sky.rocks; other++) {
            for (int week = 0; week < first && other != rock; week++) {
                int arrival = rays.arrival(other, week, rock);
                if (arrival != NONE) {
                    first = Math.min(first, arrival);
                }
            }
        }
        return answer(first);
    }

    public int closest(int a, int b, int from, int light) {
        if (!isCouple(a, b) || !isWeek(from) || !isWithin(light, 40)) {
            return refuse(WRONG);
        }
        for (int week = from; week <= LAST_WEEK; week++) {
            if (world.sky.lightBetween(a, week, b, week) <= light) {
                return answer(week);
            }
        }
        return refuse(NONE_SUCH);
    }

    // ---- NEWS

    public int knows(int from, int week, int rock) {
        if (!isNews(from, week) || !isRock(rock)) {
            return refuse(WRONG);
        }
        news.spread(from, week);
        return answerIfAny(news.known[rock]);
    }

    public int teller(int from, int week, int rock) {
        if (!isNews(from, week) || !isRock(rock)) {
            return refuse(WRONG);
        }
        news.spread(from, week);
        return answerIfAny(news.tellers[rock]);
    }

    public int hops(int from, int week, int rock) {
        if (!isNews(from, week) || !isRock(rock)) {
            return refuse(WRONG);
        }
        news.spread(from, week);
        return answerIfAny(news.hopCounts[rock]);
    }

    public int knowing(int from, int week, int by) {
        if (!isNews(from, week) || !isWithin(by, LAST_TOLD_WEEK)) {
            return refuse(WRONG);
        }
        news.spread(from, week);
        int set = 0;
        for (int rock = 0; rock < world.sky.rocks; rock++) {
            if (news.known[rock] != NONE && news.known[rock] <= by) {
                set |= 1 << rock;
            }
        }
        return answer(set);
    }

    public int overtaken(int from, int week) {
        if (!isNews(from, week)) {
            return refuse(WRONG);
        }
        news.spread(from, week);
        int set = 0;
        for (int rock = 0; rock < world.sky.rocks; rock++) {
            int straight = rays.arrival(from, week, rock);
            if (news.known[rock] != NONE && (straight == NONE || news.known[rock] < straight)) {
                set |= 1 << rock;
            }
        }
        return answer(set);
    }

    public int early(int from, int week, int tray) {
        if (!isNews(from, week) || !isTray(tray)) {
            return refuse(WRONG);
        }
        Tray said = trays[tray];
        int rocks = world.sky.rocks;
        if (said.isMissing()) {
            return refuse(TRAY_MISSING);
        }
        if (said.many < rocks) {
            return refuse(NO_PLACE);
        }
        if (!said.holdsWithin(rocks, LAST_TOLD_WEEK)) {
            return refuse(WRONG_IN_TRAY);
        }
        news.spread(from, week);
        int set = 0;
        for (int rock = 0; rock < rocks; rock++) {
            if (news.known[rock] == NONE || said.numbers[rock] < news.known[rock]) {
                set |= 1 << rock;
            }
        }
        return answer(set);
    }

    public int latest(int from, int week) {
        if (!isNews(from, week)) {
            return refuse(WRONG);
        }
        news.spread(from, week);
        return answerIfAny(news.lastToKnow());
    }

    public int centre(int week) {
        if (!isWeek(week)) {
            return refuse(WRONG);
        }
        int best = NONE;
        int least = 0;
        for (int from = 0; from < world.sky.rocks; from++) {
            news.spread(from, week);
            int last = news.lastToKnow();
            if (last != NONE && (best == NONE || news.known[last] < least)) {
                least = news.known[last];
                best = from;
            }
        }
        return answerIfAny(best);
    }

    public int cutOff(int from, int week) {
        if (!isNews(from, week)) {
            return refuse(WRONG);
        }
        news.spread(from, week);
        int set = 0;
        for (int rock = 0; rock < world.sky.rocks; rock++) {
            if (news.known[rock] == NONE) {
                set |= 1 << rock;
            }
        }
        return answer(set);
    }

    public int hearsBack(int from, int week) {
        if (!isNews(from, week)) {
            return refuse(WRONG);
        }
        news.spread(from, week);
        int first = NONE;
        for (int rock = 0; rock < world.sky.rocks; rock++) {
            int arrival = rock == from ? NONE : rays.arrival(rock, news.known[rock], from);
            if (arrival != NONE && (first == NONE || arrival < first)) {
                first = arrival;
            }
        }
        return answerIfAny(first);
    }

    public int remote(int week) {
        if (!isWeek(week)) {
            return refuse(WRONG);
        }
        int best = NONE;
        int most = NONE;
        for (int rock = 0; rock < world.sky.rocks; rock++) {
            int sum = 0;
            for (int from = 0; from < world.sky.rocks; from++) {
                news.spread(from, week);
                sum += news.known[rock] == NONE ? NEVER_COUNTS : news.known[rock];
            }
            if (sum > most) {
                most = sum;
                best = rock;
            }
        }
        return answerIfAny(best);
    }

    // ---- ORDERS

    public int order(int rock) {
        if (!isRock(rock)) {
            return refuse(WRONG);
        }
        int order = life.giveOrder(rock);
        return order == NONE ? refuse(TOO_MANY) : answer(order);
    }

    public int given(int order, int what) {
        if (!isOrder(order) || !isWithin(what, 1)) {
            return refuse(WRONG);
        }
        return answer(what == 0 ? world.course.givers[order] : world.course.sent[order]);
    }

    public int heard(int order, int rock) {
        if (!isOrder(order) || !isRock(rock)) {
            return refuse(WRONG);
        }
        return answerIfAny(world.course.firstKnown(order, rock));
    }

    public int rules(int rock, int week) {
        if (!isRock(rock) || !isWithin(week, LAST_TOLD_WEEK)) {
            return refuse(WRONG);
        }
        return answerIfAny(world.ruler(rock, week));
    }

    public int ruled(int order, int week) {
        if (!isOrder(order) || !isWithin(week, LAST_TOLD_WEEK)) {
            return refuse(WRONG);
        }
        int set = 0;
        for (int rock = 0; rock < world.sky.rocks; rock++) {
            if (world.ruler(rock, week) == order) {
                set |= 1 << rock;
            }
        }
        return answer(set);
    }

    public int before(int a, int b, int rock) {
        if (!isOrderCouple(a, b) || !isRock(rock)) {
            return refuse(WRONG);
        }
        int one = world.course.firstKnown(a, rock);
        int other = world.course.firstKnown(b, rock);
        if (one == NONE && other == NONE) {
            return refuse(NONE_SUCH);
        }
        if (one == other) {
            return answer(2);
        }
        return answer(other == NONE || one != NONE && one < other ? 0 : 1);
    }

    public int oneForAll(int a, int b) {
        if (!isOrderCouple(a, b)) {
            return refuse(WRONG);
        }
        return answer(world.isOneForAll(a, b) ? 1 : 0);
    }

    public int disputes() {
        int many = 0;
        for (int a = 0; a < world.course.orders; a++) {
            for (int b = a + 1; b < world.course.orders; b++) {
                if (!world.isOneForAll(a, b)) {
                    many++;
                }
            }
        }
        return answer(many);
    }

    public int peace(int from) {
        if (!isWithin(from, LAST_TOLD_WEEK)) {
            return refuse(WRONG);
        }
        for (int week = from; week <= LAST_TOLD_WEEK; week++) {
            if (world.rulerOfAll(week) != NONE) {
                return answer(week);
            }
        }
        return refuse(NONE_SUCH);
    }

    public int kth(int rock, int k) {
        if (!isRock(rock) || k < 0) {
            return refuse(WRONG);
        }
        Course course = world.course;
        for (int order = 0; order < course.orders; order++) {
            if (course.firstKnown(order, rock) != NONE && course.knownAhead(order, rock) == k) {
                return answer(order);
            }
        }
        return refuse(NONE_SUCH);
    }

    public int reign(int order, int rock) {
        if (!isOrder(order) || !isRock(rock)) {
            return refuse(WRONG);
        }
        int many = 0;
        for (int week = 0; week <= LAST_TOLD_WEEK; week++) {
            if (world.ruler(rock, week) == order) {
                many++;
            }
        }
        return answer(many);
    }

    public int idle() {
        Course course = world.course;
        int busy = 0;
        // Who rules a ROCK changes only in WEEKS in which it comes to KNOW an ORDER.
        for (int rock = 0; rock < world.sky.rocks; rock++) {
            for (int order = 0; order < course.orders; order++) {
                int week = course.firstKnown(order, rock);
                if (week != NONE) {
                    busy |= 1 << world.ruler(rock, week);
                }
            }
        }
        return answer(course.orders - Integer.bitCount(busy));
    }

    // ---- ECHOES, plans

    public int echo(int a, int week, int b) {
        if (!isCouple(a, b) || !isWeek(week)) {
            return refuse(WRONG);
        }
        return answerIfAny(rays.echoOf(a, week, b));
    }

    public int answered(int a, int b, int by) {
        if (!isCouple(a, b) || !isWithin(by, LAST_TOLD_WEEK)) {
            return refuse(WRONG);
        }
        for (int week = Math.min(by, LAST_WEEK); week >= 0; week--) {
            int echo = rays.echoOf(a, week, b);
            if (echo != NONE && echo <= by) {
                return answer(week);
            }
        }
        return refuse(NONE_SUCH);
    }

    public int joint(int order, int set) {
        if (!isOrder(order) || !isSet(set)) {
            return refuse(WRONG);
        }
        int last = 0;
        for (int rock = 0; rock < world.sky.rocks; rock++) {
            int known = world.course.firstKnown(order, rock);
            if ((set >> rock & 1) == 1) {
                if (known == NONE) {
                    return refuse(NONE_SUCH);
                }
                last = Math.max(last, known);
            }
        }
        return answer(last);
    }

    public int confirmed(int order, int set) {
        if (!isOrder(order) || !isSet(set)) {
            return refuse(WRONG);
        }
        int giver = world.course.givers[order];
        int last = world.course.sent[order];
        for (int rock = 0; rock < world.sky.rocks; rock++) {
            if (rock != giver && (set >> rock & 1) == 1) {
                int back = rays.arrival(rock, world.course.firstKnown(order, rock), giver);
                if (back == NONE) {
                    return refuse(NONE_SUCH);
                }
                last = Math.max(last, back);
            }
        }
        return answer(last);
    }

    public int sure(int order, int first, int second) {
        if (!isOrder(order) || !isCouple(first, second)) {
            return refuse(WRONG);
        }
        return answerIfAny(rays.arrival(first, world.course.firstKnown(order, first), second));
    }

    public int cheap(int from, int week, int to, int by) {
        if (!isNews(from, week) || !isRock(to) || !isWithin(by, LAST_CHEAP_WEEK)) {
            return refuse(WRONG);
        }
        return answerIfAny(news.leastCost(from, week, to, by));
    }

    // ---- PRICES

    public int price(int rock, int week) {
        if (!isRock(rock) || !isWithin(week, LAST_TOLD_WEEK)) {
            return refuse(WRONG);
        }
        return answer(world.sky.priceIn(rock, week));
    }

    public int priceSeen(int rock, int other, int week) {
        if (!isRock(rock) || !isRock(other) || !isWeek(week)) {
            return refuse(WRONG);
        }
        int seen = rays.seen(rock, other, week);
        return seen == NONE ? refuse(NONE_SUCH) : answer(world.sky.priceIn(other, seen));
    }

    public int gain(int a, int week, int b) {
        if (!isCouple(a, b) || !isWeek(week)) {
            return refuse(WRONG);
        }
        return answer(world.sky.gainOf(a, week, b));
    }

    public int hoped(int a, int week, int b) {
        if (!isCouple(a, b) || !isWeek(week)) {
            return refuse(WRONG);
        }
        int seen = rays.seen(a, b, week);
        if (seen == NONE) {
            return refuse(NONE_SUCH);
        }
        return answer(world.sky.priceIn(b, seen) - world.sky.priceIn(a, week));
    }

    public int market(int a, int week) {
        if (!isRock(a) || !isWeek(week)) {
            return refuse(WRONG);
        }
        int best = NONE;
        int most = 0;
        for (int b = 0; b < world.sky.rocks; b++) {
            int gain = world.sky.gainOf(a, week, b);
            if (b != a && (best == NONE || gain > most)) {
                most = gain;
                best = b;
            }
        }
        return answerIfAny(best);
    }

    public boolean meanPrice(int rock, int from, int to) {
        boolean weeks = isWithin(from, LAST_TOLD_WEEK) && isWithin(to, LAST_TOLD_WEEK) && from <= to;
        if (!isRock(rock) || !weeks) {
            return deny(WRONG);
        }
        long sum = 0;
        for (int week = from; week <= to; week++) {
            sum += world.sky.priceIn(rock, week);
        }
        return tellFraction(sum, to - from + 1);
    }

    // ---- fashions, YEARS

    public int pass(int weeks) {
        if (weeks < 1 || weeks > 99) {
            return refuse(WRONG);
        }
        if (world.course.week + weeks > LAST_WEEK) {
            return refuse(TOO_MANY);
        }
        life.letPass(weeks);
        return answer(world.course.week);
    }

    public int wore(int rock, int week) {
        if (!isRock(rock) || !isWithin(week, world.course.week)) {
            return refuse(WRONG);
        }
        return answer(world.course.wornIn(rock, week));
    }

    public boolean wear(int rock, int what) {
        if (!isRock(rock) || !isWithin(what, 1)) {
            return deny(WRONG);
        }
        world.course.dress(rock, what);
        return grant();
    }

    public int fashion(int rock, int other) {
        if (!isCouple(rock, other)) {
            return refuse(WRONG);
        }
        int seen = rays.seen(rock, other, world.course.week);
        return seen == NONE ? refuse(NONE_SUCH) : answer(world.course.wornIn(other, seen));
    }

    public int follows(int rock, int other) {
        if (!isCouple(rock, other)) {
            return refuse(WRONG);
        }
        return answer(weeksFollowed(rock, other));
    }

    public int model(int rock) {
        if (!isRock(rock)) {
            return refuse(WRONG);
        }
        int best = NONE;
        int most = NONE;
        for (int other = 0; other < world.sky.rocks; other++) {
            int followed = other == rock ? NONE : weeksFollowed(rock, other);
            if (followed > most) {
                most = followed;
                best = other;
            }
        }
        return answerIfAny(best);
    }

    public int changes(int rock) {
        if (!isRock(rock)) {
            return refuse(WRONG);
        }
        Course course = world.course;
        int many = 0;
        for (int week = 1; week <= course.week; week++) {
            if (course.wornIn(rock, week) != course.wornIn(rock, week - 1)) {
                many++;
            }
        }
        return answer(many);
    }

    public int uniform() {
        Course course = world.course;
        int all = (1 << world.sky.rocks) - 1;
        int many = 0;
        for (int week = 0; week <= course.week; week++) {
            if (course.worn[week] == 0 || course.worn[week] == all) {
                many++;
            }
        }
        return answer(many);
    }

    public int live(int seed) {
        if (!isWithin(seed, LAST_SEED)) {
            return refuse(WRONG);
        }
        if (!world.years.there) {
            return refuse(NONE_SUCH);
        }
        life.run(seed);
        everLived = true;
        livedLatest[0] = life.missed;
        livedLatest[1] = life.weeks;
        livedLatest[2] = life.turned;
        livedLatest[3] = life.ordered;
        livedLatest[4] = life.left;
        return answer(life.steps);
    }

    public int lived(int what) {
        if (!isWithin(what, livedLatest.length - 1)) {
            return refuse(WRONG);
        }
        return everLived ? answer(livedLatest[what]) : refuse(NONE_SUCH);
    }

    public boolean mean(int seed, int many) {
        // The seed is looked at ahead of the sum, which could wrap round else.
        if (!isWithin(seed, LAST_SEED) || many < 1 || many > 10 || seed + many - 1 > LAST_SEED) {
            return deny(WRONG);
        }
        if (!world.years.there) {
            return deny(NONE_SUCH);
        }
        spare.course.copyFrom(world.course);
        int sum = 0;
        for (int turn = 0; turn < many; turn++) {
            life.run(seed + turn);
            sum += Integer.bitCount(world.course.wornNow());
            world.course.copyFrom(spare.course);
        }
        return tellFraction(sum, many);
    }

    // ---- MARKS

    public int mark() {
        if (marks == MOST_MARKS) {
            return refuse(TOO_MANY);
        }
        kept[marks].copyFrom(world);
        marks++;
        return answer(marks);
    }

    public int back() {
        if (marks == 0) {
            return refuse(NONE_SUCH);
        }
        marks--;
        world.copyFrom(kept[marks]);
        rays.forget();
        return answer(marks);
    }

    // ---- what the calls share

    private int answer(int value) {
        outcome = FINE;
        return value;
    }

    private int answerIfAny(int value) {
        return value == NONE ? refuse(NONE_SUCH) : answer(value);
    }

    private int refuse(int why) {
        outcome = why;
        return NONE;
    }

    private boolean grant() {
        outcome = FINE;
        return true;
    }

    private boolean deny(int why) {
        outcome = why;
        return false;
    }

    private static boolean isWithin(int value, int most) {
        return value >= 0 && value <= most;
    }

    private static boolean isWeek(int week) {
        return isWithin(week, LAST_WEEK);
    }

    private static boolean isTray(int tray) {
        return isWithin(tray, TRAYS - 1);
    }

    private boolean isRock(int rock) {
        return isWithin(rock, world.sky.rocks - 1);
    }

    private boolean isCouple(int a, int b) {
        return isRock(a) && isRock(b) && a != b;
    }

    private boolean isNews(int from, int week) {
        return isRock(from) && isWeek(week);
    }

    private boolean isOrder(int order) {
        return isWithin(order, world.course.orders - 1);
    }

    private boolean isOrderCouple(int a, int b) {
        return isOrder(a) && isOrder(b) && a != b;
    }

    private boolean isSet(int set) {
        return set > 0 && set < 1 << world.sky.rocks;
    }

    private int wrongInPlace(int tray, int place) {
        if (!isTray(tray)) {
            return WRONG;
        }
        if (trays[tray].isMissing()) {
            return TRAY_MISSING;
        }
        return isWithin(place, trays[tray].many - 1) ? FINE : NO_PLACE;
    }

    private boolean tellFraction(long sum, long many) {
        long a = sum;
        long b = many;
        // Euclid's numbers at least halve every second turn, so 128 turns are plenty for longs.
        for (int turn = 0; turn < 128 && b != 0; turn++) {
            long rest = a % b;
            a = b;
            b = rest;
        }
        long divisor = Math.max(1, Math.abs(a));
        upper = sum / divisor;
        lower = many / divisor;
        return grant();
    }

    private int weeksFollowed(int rock, int other) {
        Course course = world.course;
        int many = 0;
        for (int week = 1; week <= course.week; week++) {
            int seen = rays.seen(rock, other, week);
            if (seen != NONE && course.wornIn(rock, week) == course.wornIn(other, seen)) {
                many++;
            }
        }
        return many;
    }

    /** A row of numbers of one sort, or MISSING. */
    private static final class Tray {
        final long[] numbers = new long[TRAY_PLACES];
        int sort;
        int many = NONE;

        boolean isMissing() {
            return many == NONE;
        }

        void renew(int newSort, int newMany) {
            sort = newSort;
            many = newMany;
            Arrays.fill(numbers, 0L);
        }

        void put(int place, long number) {
            if (sort == 0) {
                numbers[place] = (byte) number;
            } else if (sort == 1) {
                numbers[place] = (short) number;
            } else if (sort == 2) {
                numbers[place] = (int) number;
            } else {
                numbers[place] = number;
            }
        }

        /** Both are 0 or more; written so that no sum of them wraps round. */
        boolean hasPlaces(int place, int count) {
            return count <= many && place <= many - count;
        }

        boolean holdsWithin(int count, int most) {
            for (int place = 0; place < count; place++) {
                if (numbers[place] < 0 || numbers[place] > most) {
                    return false;
                }
            }
            return true;
        }
    }

    /** What a text tells of the ROCKS, the ICE and the LAW; it does not change by WEEKS. */
    private static final class Sky {
        final long[] names = new long[MOST_ROCKS];
        final int[] facts = new int[MOST_ROCKS * FACTS];
        final int[] iceFacts = new int[MOST_ICES * ICE_FACTS];
        int rocks;
        int ices;
        int law;
        /** The set of ROCKS that WEAR the new fashion in WEEK 0. */
        int wearers;

        void clear() {
            rocks = 0;
            ices = 0;
            law = LAW_FIRST;
            wearers = 0;
            Arrays.fill(facts, 0);
        }

        void copyFrom(Sky other) {
            System.arraycopy(other.names, 0, names, 0, names.length);
            System.arraycopy(other.facts, 0, facts, 0, facts.length);
            System.arraycopy(other.iceFacts, 0, iceFacts, 0, iceFacts.length);
            rocks = other.rocks;
            ices = other.ices;
            law = other.law;
            wearers = other.wearers;
        }

        int named(long name) {
            for (int rock = 0; rock < rocks; rock++) {
                if (names[rock] == name) {
                    return rock;
                }
            }
            return NONE;
        }

        int fact(int rock, int what) {
            return facts[rock * FACTS + what];
        }

        int heading(int rock, int week) {
            int round = facts[rock * FACTS + ROUND];
            int gone = round < 1 ? 0 : DIRECTIONS * week / round;
            return (facts[rock * FACTS + AT] + gone) % DIRECTIONS;
        }

        /** LIGHT between two ROCKS that are in those two DIRECTIONS. */
        int apart(int a, int headingA, int b, int headingB) {
            if (a == b) {
                return 0;
            }
            // No call from here on, not even of the library: live() is eight calls deep here already.
            int farA = facts[a * FACTS + FAR];
            int farB = facts[b * FACTS + FAR];
            int nearer = farA < farB ? farA : farB;
            int farther = farA < farB ? farB : farA;
            int turn = headingA < headingB ? headingB - headingA : headingA - headingB;
            int steps = turn > DIRECTIONS / 2 ? DIRECTIONS - turn : turn;
            int light = farther - nearer + steps * nearer / 6;
            return light < 1 ? 1 : light;
        }

        int lightBetween(int a, int week, int b, int then) {
            return apart(a, heading(a, week), b, heading(b, then));
        }

        boolean hasIce(int a, int b, int week) {
            for (int ice = 0; ice < ices; ice++) {
                int row = ice * ICE_FACTS;
                int one = iceFacts[row + ONE];
                int other = iceFacts[row + OTHER];
                boolean between = one == a && other == b || one == b && other == a;
                if (between && week >= iceFacts[row + SINCE] && week <= iceFacts[row + UNTIL]) {
                    return true;
                }
            }
            return false;
        }

        /** The WEEK in which a SHIP is there. */
        int landing(int a, int week, int b) {
            if (a == b) {
                return week;
            }
            int gone = heading(a, week);
            int last = week + SHIP_SLOWNESS * MOST_LIGHT;
            for (int then = week + SHIP_SLOWNESS; then < last; then++) {
                if (SHIP_SLOWNESS * apart(a, gone, b, heading(b, then)) <= then - week) {
                    return then;
                }
            }
            return last;
        }

        int priceIn(int rock, int week) {
            return facts[rock * FACTS + PRICE] + facts[rock * FACTS + SWING] * heading(rock, week);
        }

        int gainOf(int a, int week, int b) {
            return priceIn(b, landing(a, week, b)) - priceIn(a, week);
        }
    }

    /** What became of a SKY: the WEEK, the fashions of all WEEKS up to it, the ORDERS. */
    private static final class Course {
        /** For each WEEK the set of ROCKS that WORE the new fashion. */
        final int[] worn = new int[LAST_WEEK + 1];
        final int[] givers = new int[MOST_ORDERS];
        final int[] sent = new int[MOST_ORDERS];
        /** For each ORDER and ROCK the WEEK in which it first KNOWS it, or NONE. */
        final int[] known = new int[MOST_ORDERS * MOST_ROCKS];
        int week;
        int orders;

        void begin(int wearers) {
            week = 0;
            orders = 0;
            worn[0] = wearers;
        }

        void copyFrom(Course other) {
            week = other.week;
            orders = other.orders;
            System.arraycopy(other.worn, 0, worn, 0, week + 1);
            System.arraycopy(other.givers, 0, givers, 0, orders);
            System.arraycopy(other.sent, 0, sent, 0, orders);
            System.arraycopy(other.known, 0, known, 0, orders * MOST_ROCKS);
        }

        int wornNow() {
            return worn[week];
        }

        int wornIn(int rock, int then) {
            return worn[then] >> rock & 1;
        }

        void dress(int rock, int what) {
            worn[week] = worn[week] & ~(1 << rock) | what << rock;
        }

        void turnRound(int rock) {
            worn[week] ^= 1 << rock;
        }

        int firstKnown(int order, int rock) {
            return known[order * MOST_ROCKS + rock];
        }

        /** How many ORDERS a ROCK comes to KNOW ahead of one that it KNOWS. */
        int knownAhead(int order, int rock) {
            int mine = firstKnown(order, rock);
            int many = 0;
            for (int other = 0; other < orders; other++) {
                int its = firstKnown(other, rock);
                if (its != NONE && (its < mine || its == mine && other < order)) {
                    many++;
                }
            }
            return many;
        }
    }

    /** The YEARS as rows of steps and ends; a when or loop and its end know each other as partners. */
    private static final class Years {
        static final int MOST_ROWS = 2 * MOST_STEPS;
        final int[] words = new int[MOST_ROWS];
        final int[] first = new int[MOST_ROWS];
        final int[] second = new int[MOST_ROWS];
        final int[] third = new int[MOST_ROWS];
        final int[] partners = new int[MOST_ROWS];
        boolean there;
        int steps;
        int rows;

        void clear() {
            there = false;
            steps = 0;
            rows = 0;
        }

        void copyFrom(Years other) {
            there = other.there;
            steps = other.steps;
            rows = other.rows;
            System.arraycopy(other.words, 0, words, 0, rows);
            System.arraycopy(other.first, 0, first, 0, rows);
            System.arraycopy(other.second, 0, second, 0, rows);
            System.arraycopy(other.third, 0, third, 0, rows);
            System.arraycopy(other.partners, 0, partners, 0, rows);
        }

        /** Each end has a beginning that is a STEP, so there are at most twice as many rows as STEPS. */
        int addRow(int word) {
            int row = rows;
            words[row] = word;
            rows++;
            return row;
        }
    }

    /** All that a MARK keeps. */
    private static final class World {
        final Sky sky = new Sky();
        final Course course = new Course();
        final Years years = new Years();

        void begin(Sky taken) {
            sky.copyFrom(taken);
            course.begin(taken.wearers);
            years.clear();
        }

        void copyFrom(World other) {
            sky.copyFrom(other.sky);
            course.copyFrom(other.course);
            years.copyFrom(other.years);
        }

        /** The ORDER that RULES at a ROCK in a WEEK, or NONE. */
        int ruler(int rock, int week) {
            int ruler = NONE;
            for (int order = 0; order < course.orders; order++) {
                int known = course.firstKnown(order, rock);
                boolean counts = known != NONE && known <= week;
                if (counts && (ruler == NONE || goesAhead(order, ruler, rock))) {
                    ruler = order;
                }
            }
            return ruler;
        }

        /** If by LAW a later ORDER counts more than one with a lower number. */
        private boolean goesAhead(int order, int ruler, int rock) {
            switch (sky.law) {
                case LAW_FIRST:
                    return course.firstKnown(order, rock) < course.firstKnown(ruler, rock);
                case LAW_LAST:
                    return course.firstKnown(order, rock) > course.firstKnown(ruler, rock);
                case LAW_RANK:
                    return sky.fact(course.givers[order], RANK) > sky.fact(course.givers[ruler], RANK);
                default:
                    return course.sent[order] < course.sent[ruler];
            }
        }

        int rulerOfAll(int week) {
            int common = sky.rocks == 0 ? NONE : ruler(0, week);
            for (int rock = 1; rock < sky.rocks && common != NONE; rock++) {
                if (ruler(rock, week) != common) {
                    common = NONE;
                }
            }
            return common;
        }

        boolean isOneForAll(int a, int b) {
            boolean any = false;
            int same = 0;
            for (int rock = 0; rock < sky.rocks; rock++) {
                int one = course.firstKnown(a, rock);
                int other = course.firstKnown(b, rock);
                if (one != NONE && other != NONE) {
                    int sooner = Integer.compare(one, other);
                    if (any && sooner != same) {
                        return false;
                    }
                    any = true;
                    same = sooner;
                }
            }
            return true;
        }
    }

    /**
     * When LIGHT ARRIVES and what is SEEN. What was found once is kept until another SKY is there,
     * as fashions and NEWS ask for the same WEEKS again and again.
     */
    private static final class Rays {
        private static final int UNKNOWN = -2;
        private static final int ROW = LAST_WEEK + 1;
        private static final int CELLS = MOST_ROCKS * MOST_ROCKS * ROW;
        private final Sky sky;
        /** The set of rows that hold something of this SKY. */
        private long opened;
        /** For each couple and WEEK of sending; made when they are first asked for, as many objects never do. */
        private int[] arrivals;
        /** For each couple and WEEK of seeing. */
        private int[] looks;

        Rays(Sky sky) {
            this.sky = sky;
        }

        void forget() {
            opened = 0;
        }

        private int openedRow(int a, int b) {
            int couple = a * MOST_ROCKS + b;
            int row = couple * ROW;
            if (arrivals == null || looks == null) {
                arrivals = new int[CELLS];
                looks = new int[CELLS];
            }
            if ((opened >> couple & 1) == 0) {
                opened |= 1L << couple;
                for (int cell = row; cell < row + ROW; cell++) {
                    arrivals[cell] = UNKNOWN;
                    looks[cell] = UNKNOWN;
                }
            }
            return row;
        }

        /** The WEEK in which what a ROCK sends ARRIVES at another one, or NONE; only WEEKS 0 to 400 send. */
        int arrival(int a, int week, int b) {
            if (week < 0 || week > LAST_WEEK) {
                return NONE;
            }
            if (a == b) {
                return week;
            }
            int cell = openedRow(a, b) + week;
            if (arrivals[cell] == UNKNOWN) {
                int gone = sky.heading(a, week);
                int then = week + 1;
                while (then < week + MOST_LIGHT && sky.apart(a, gone, b, sky.heading(b, then)) > then - week) {
                    then++;
                }
                arrivals[cell] = sky.hasIce(a, b, week) ? NONE : then;
            }
            return arrivals[cell];
        }

        /** The WEEK in which what a ROCK SEES of another one was, or NONE. */
        int seen(int rock, int other, int week) {
            if (week < 0 || week > LAST_WEEK) {
                return NONE;
            }
            if (rock == other) {
                return week;
            }
            int row = openedRow(other, rock);
            if (looks[row + week] != UNKNOWN) {
                return looks[row + week];
            }
            int ahead = week == 0 ? NONE : looks[row + week - 1];
            int best = ahead == UNKNOWN ? NONE : ahead;
            // What was sent MOST_LIGHT and more WEEKS ago and is not there yet will never be.
            int least = ahead == UNKNOWN ? 0 : Math.max(ahead + 1, week - MOST_LIGHT);
            for (int sent = week - 1; sent >= least; sent--) {
                int arrival = arrival(other, sent, rock);
                if (arrival != NONE && arrival <= week) {
                    best = sent;
                    break;
                }
            }
            looks[row + week] = best;
            return best;
        }

        int echoOf(int a, int week, int b) {
            return arrival(b, arrival(a, week, b), a);
        }
    }

    /** How NEWS comes to all ROCKS; the rows tell of the NEWS that was spread latest. */
    private static final class News {
        private static final int TURN = MOST_LIGHT + 1;
        private final Sky sky;
        private final Rays rays;
        final int[] known = new int[MOST_ROCKS];
        final int[] tellers = new int[MOST_ROCKS];
        final int[] hopCounts = new int[MOST_ROCKS];
        /** Costs by WEEK and ROCK; no sending takes more than MOST_LIGHT WEEKS, so rows of WEEKS are used in turn. */
        private final int[] costs = new int[TURN * MOST_ROCKS];

        News(Sky sky, Rays rays) {
            this.sky = sky;
            this.rays = rays;
        }

        void spread(int from, int week) {
            Arrays.fill(known, NONE);
            Arrays.fill(tellers, NONE);
            Arrays.fill(hopCounts, NONE);
            known[from] = week;
            int told = 0;
            for (int turn = 0; turn < sky.rocks; turn++) {
                int rock = soonest(told);
                if (rock == NONE) {
                    return;
                }
                told |= 1 << rock;
                hopCounts[rock] = tellers[rock] == NONE ? 0 : hopCounts[tellers[rock]] + 1;
                tellOn(rock);
            }
        }

        /** LIGHT takes a WEEK at least, so nothing can come sooner to the soonest that hasn't told it on. */
        private int soonest(int told) {
            int best = NONE;
            for (int rock = 0; rock < sky.rocks; rock++) {
                boolean open = known[rock] != NONE && (told >> rock & 1) == 0;
                if (open && (best == NONE || known[rock] < known[best])) {
                    best = rock;
                }
            }
            return best;
        }

        private void tellOn(int rock) {
            for (int other = 0; other < sky.rocks; other++) {
                int arrival = other == rock ? NONE : rays.arrival(rock, known[rock], other);
                if (arrival != NONE) {
                    boolean sooner = known[other] == NONE || arrival < known[other];
                    if (sooner || arrival == known[other] && rock < tellers[other]) {
                        known[other] = arrival;
                        tellers[other] = rock;
                    }
                }
            }
        }

        /** NONE if a ROCK never KNOWS it. */
        int lastToKnow() {
            int last = 0;
            for (int rock = 0; rock < sky.rocks; rock++) {
                if (known[rock] == NONE) {
                    return NONE;
                }
                if (known[rock] > known[last]) {
                    last = rock;
                }
            }
            return last;
        }

        /** The least cost of NEWS from a ROCK in a WEEK to another one by a WEEK, or NONE. */
        int leastCost(int from, int week, int to, int by) {
            Arrays.fill(costs, NONE);
            costs[week % TURN * MOST_ROCKS + from] = 0;
            int best = NONE;
            int last = Math.min(by, LAST_WEEK + MOST_LIGHT);
            for (int now = week; now <= last; now++) {
                int row = now % TURN * MOST_ROCKS;
                if (costs[row + to] != NONE && (best == NONE || costs[row + to] < best)) {
                    best = costs[row + to];
                }
                for (int rock = 0; rock < sky.rocks; rock++) {
                    int cost = costs[row + rock];
                    costs[row + rock] = NONE;
                    if (cost != NONE && (best == NONE || cost < best)) {
                        sendOn(rock, now, cost);
                    }
                }
            }
            return best;
        }

        private void sendOn(int rock, int now, int cost) {
            for (int other = 0; other < sky.rocks; other++) {
                int arrival = other == rock ? NONE : rays.arrival(rock, now, other);
                if (arrival != NONE) {
                    int place = arrival % TURN * MOST_ROCKS + other;
                    int sum = cost + (arrival - now) * (arrival - now);
                    if (costs[place] == NONE || sum < costs[place]) {
                        costs[place] = sum;
                    }
                }
            }
        }
    }

    /** WEEKS that go by, ORDERS that are given, YEARS that are lived. */
    private static final class Life {
        /** Far above the ends that 200 STEPS can lead to. */
        private static final int MOST_TURNS = 1000000;
        private final World world;
        private final Rays rays;
        private final News news;
        /** For each row with a loop how often it is still to be done. */
        private final int[] rounds = new int[Years.MOST_ROWS];
        private int drawn;
        int steps;
        int missed;
        int weeks;
        int turned;
        int ordered;
        int left;

        Life(World world, Rays rays, News news) {
            this.world = world;
            this.rays = rays;
            this.news = news;
        }

        /** How many of so many WEEKS went by. */
        int letPass(int many) {
            Course course = world.course;
            for (int gone = 0; gone < many; gone++) {
                if (course.week >= LAST_WEEK) {
                    return gone;
                }
                course.worn[course.week + 1] = wornNext();
                course.week++;
            }
            return many;
        }

        private int wornNext() {
            Course course = world.course;
            int next = course.week + 1;
            int set = 0;
            for (int rock = 0; rock < world.sky.rocks; rock++) {
                int more = 0;
                for (int other = 0; other < world.sky.rocks; other++) {
                    int seen = other == rock ? NONE : rays.seen(rock, other, next);
                    if (seen != NONE) {
                        more += course.wornIn(other, seen) == 1 ? 1 : -1;
                    }
                }
                boolean wears = more > 0 || more == 0 && course.wornIn(rock, course.week) == 1;
                set |= wears ? 1 << rock : 0;
            }
            return set;
        }

        /** The number of the ORDER, NONE if there are too many. */
        int giveOrder(int rock) {
            Course course = world.course;
            int order = course.orders;
            if (order >= MOST_ORDERS) {
                return NONE;
            }
            news.spread(rock, course.week);
            course.givers[order] = rock;
            course.sent[order] = course.week;
            System.arraycopy(news.known, 0, course.known, order * MOST_ROCKS, MOST_ROCKS);
            course.orders++;
            return order;
        }

        void run(int seed) {
            Years years = world.years;
            drawn = seed;
            steps = 0;
            missed = 0;
            weeks = 0;
            turned = 0;
            ordered = 0;
            left = 0;
            int row = 0;
            for (int turn = 0; turn < MOST_TURNS && row < years.rows; turn++) {
                if (years.words[row] == WORD_END) {
                    row = behindEnd(row);
                } else if (steps < MOST_DONE) {
                    steps++;
                    row = behindStep(row);
                } else {
                    left = 1;
                    return;
                }
            }
        }

        private int behindEnd(int row) {
            int begin = world.years.partners[row];
            if (world.years.words[begin] == WORD_LOOP) {
                rounds[begin]--;
                if (rounds[begin] > 0) {
                    return begin + 1;
                }
            }
            return row + 1;
        }

        private int behindStep(int row) {
            Years years = world.years;
            int first = years.first[row];
            switch (years.words[row]) {
                case WORD_WEEK:
                    int gone = letPass(first);
                    weeks += gone;
                    missed += gone < first ? 1 : 0;
                    return row + 1;
                case WORD_WEAR:
                    world.course.dress(first, years.second[row]);
                    return row + 1;
                case WORD_ORDER:
                    boolean given = giveOrder(first) != NONE;
                    ordered += given ? 1 : 0;
                    missed += given ? 0 : 1;
                    return row + 1;
                case WORD_CHANCE:
                    turnByChance(first);
                    return row + 1;
                case WORD_WHEN:
                    return holds(row) ? row + 1 : years.partners[row] + 1;
                case WORD_LOOP:
                    rounds[row] = first;
                    return row + 1;
                default:
                    return years.rows;
            }
        }

        private void turnByChance(int chance) {
            for (int rock = 0; rock < world.sky.rocks; rock++) {
                drawn = (drawn * 2893 + 11093) % 65536;
                if (drawn / 8 % 16 < chance) {
                    world.course.turnRound(rock);
                    turned++;
                }
            }
        }

        private boolean holds(int row) {
            Course course = world.course;
            int second = world.years.second[row];
            int third = world.years.third[row];
            if (world.years.first[row] == WORD_WEARS) {
                return course.wornIn(second, course.week) == 1;
            }
            if (world.years.first[row] == WORD_RULES) {
                int ruler = world.ruler(third, course.week);
                return ruler != NONE && course.givers[ruler] == second;
            }
            if (second == '<') {
                return course.week < third;
            }
            return second == '>' ? course.week > third : course.week == third;
        }
    }

    /** The tape, and TOKEN by TOKEN along the text on it, with the first FAULT. */
    private static final class Reader {
        private static final int TEXT_END = 0;
        private static final int WORD = 1;
        private static final int NUMBER = 2;
        private static final int SIGN = 3;
        private static final int NO_TOKEN = 4;
        private static final int NAME_LETTERS = 8;
        private static final int NUMBER_DIGITS = 4;
        private final byte[] text = new byte[TAPE_BYTES];
        private final long[] keywords = new long[KEYWORD_COUNT];
        /** How many bytes are on the tape. */
        int taped;
        /** How many of them are the text that is read. */
        private int length;
        /** Where the TOKEN begins, and the place behind it. */
        private int place;
        private int end;
        private int kind;
        /** A NUMBER's value, a SIGN's byte. */
        private int value;
        int keyword;
        /** Letters as digits by 32; NONE for a WORD that is too long to be a NAME. */
        long name;
        int faultKind = NONE;
        int faultPlace = NONE;

        Reader() {
            long code = 0;
            int known = 0;
            for (int at = 0; at < KEYWORDS.length() && known < KEYWORD_COUNT; at++) {
                if (KEYWORDS.charAt(at) == ' ') {
                    keywords[known] = code;
                    known++;
                    code = 0;
                } else {
                    code = code * 32 + KEYWORDS.charAt(at) - 'a' + 1;
                }
            }
        }

        /** Four bytes more; who calls knows that there is room for them. */
        void putOnTape(int four) {
            for (int shift = 24; shift >= 0; shift -= 8) {
                text[taped] = (byte) (four >> shift);
                taped++;
            }
        }

        /** The tape is empty then; its first bytes are the text, until more is fed. */
        void open(int bytes) {
            length = bytes;
            taped = 0;
            end = 0;
            faultKind = 0;
            faultPlace = NONE;
            next();
        }

        void next() {
            while (end < length && (text[end] == 10 || text[end] == 32)) {
                end++;
            }
            place = end;
            keyword = NONE;
            name = NONE;
            value = NONE;
            if (end >= length) {
                kind = TEXT_END;
            } else if (text[end] >= 'a' && text[end] <= 'z') {
                readWord();
            } else if (text[end] >= '0' && text[end] <= '9') {
                readNumber();
            } else {
                readSign();
            }
        }

        private void readWord() {
            kind = WORD;
            long code = 0;
            while (end < length && text[end] >= 'a' && text[end] <= 'z') {
                // A long WORD has no code of its own, else it could wrap round to a short one's.
                code = end - place < NAME_LETTERS ? code * 32 + text[end] - 'a' + 1 : NONE;
                end++;
            }
            name = code;
            for (int word = 0; word < KEYWORD_COUNT; word++) {
                if (keywords[word] == code) {
                    keyword = word;
                }
            }
        }

        private void readNumber() {
            int sum = 0;
            while (end < length && text[end] >= '0' && text[end] <= '9') {
                sum = end - place < NUMBER_DIGITS ? sum * 10 + text[end] - '0' : sum;
                end++;
            }
            kind = end - place > NUMBER_DIGITS ? NO_TOKEN : NUMBER;
            value = sum;
        }

        private void readSign() {
            int sign = text[end];
            kind = sign == ';' || sign == '<' || sign == '>' || sign == '=' ? SIGN : NO_TOKEN;
            value = sign;
            end++;
        }

        boolean isAtEnd() {
            return kind == TEXT_END;
        }

        /** The TOKEN that stands now is the FAULT; always false, for who asks if all is well. */
        boolean fail(int why) {
            faultKind = kind == NO_TOKEN ? FAULT_NO_TOKEN : why;
            faultPlace = place;
            return false;
        }

        boolean takeWord(int word) {
            if (keyword != word) {
                return fail(FAULT_PLACE);
            }
            next();
            return true;
        }

        boolean takeSign(int sign) {
            if (kind != SIGN || value != sign) {
                return fail(FAULT_PLACE);
            }
            next();
            return true;
        }

        /** The SIGN, NONE if none that compares stands there. */
        int takeCompares() {
            int sign = value;
            if (kind != SIGN || sign == ';') {
                fail(FAULT_PLACE);
                return NONE;
            }
            next();
            return sign;
        }

        /** The NUMBER, NONE if it isn't one or can't be. */
        int takeNumber(int least, int most) {
            int number = value;
            if (kind != NUMBER || number < least || number > most) {
                fail(kind == NUMBER ? FAULT_NUMBER : FAULT_PLACE);
                return NONE;
            }
            next();
            return number;
        }

        boolean isName() {
            return kind == WORD && keyword == NONE && name != NONE;
        }

        /** The ROCK of that NAME, NONE if there is no such, or it is the one that it must not be. */
        int takeRock(Sky sky, int not) {
            int rock = isName() ? sky.named(name) : NONE;
            if (rock == NONE || rock == not) {
                int why = rock == NONE ? FAULT_NAME : FAULT_TWICE;
                fail(isName() ? why : FAULT_PLACE);
                return NONE;
            }
            next();
            return rock;
        }
    }

    /** Reads a SKY. */
    private static final class SkyReader {
        private final Reader reader;
        private Sky sky;
        private boolean lawTold;

        SkyReader(Reader reader) {
            this.reader = reader;
        }

        boolean readInto(Sky goal) {
            sky = goal;
            sky.clear();
            lawTold = false;
            boolean fine = true;
            // Each PART takes a byte at least.
            for (int part = 0; part <= TAPE_BYTES && fine && !reader.isAtEnd(); part++) {
                switch (reader.keyword) {
                    case WORD_ROCK:
                        fine = readRock();
                        break;
                    case WORD_ICE:
                        fine = readIce();
                        break;
                    case WORD_LAW:
                        fine = readLaw();
                        break;
                    default:
                        fine = reader.fail(FAULT_PLACE);
                }
            }
            return fine;
        }

        private boolean readRock() {
            if (sky.rocks >= MOST_ROCKS) {
                return reader.fail(FAULT_TOO_MANY);
            }
            reader.next();
            int rock = sky.rocks;
            boolean fine = readNewName(rock)
                    && readFact(WORD_FAR, FAR, 0, 20)
                    && readFact(WORD_ROUND, ROUND, 1, 99)
                    && readFact(WORD_AT, AT, 0, DIRECTIONS - 1);
            if (fine && reader.keyword == WORD_RANK) {
                fine = readFact(WORD_RANK, RANK, 0, 9);
            }
            if (fine && reader.keyword == WORD_PRICE) {
                fine = readFact(WORD_PRICE, PRICE, 0, 99);
                if (fine && reader.keyword == WORD_SWING) {
                    fine = readFact(WORD_SWING, SWING, 0, 20);
                }
            }
            if (fine && reader.keyword == WORD_WEARS) {
                reader.next();
                sky.wearers |= 1 << rock;
            }
            if (!fine || !reader.takeSign(';')) {
                return false;
            }
            sky.rocks++;
            return true;
        }

        private boolean readNewName(int rock) {
            if (!reader.isName()) {
                return reader.fail(FAULT_PLACE);
            }
            if (sky.named(reader.name) != NONE) {
                return reader.fail(FAULT_NAME);
            }
            sky.names[rock] = reader.name;
            reader.next();
            return true;
        }

        /** Of the ROCK that is being told. */
        private boolean readFact(int word, int what, int least, int most) {
            if (!reader.takeWord(word)) {
                return false;
            }
            int number = reader.takeNumber(least, most);
            sky.facts[sky.rocks * FACTS + what] = number;
            return number != NONE;
        }

        private boolean readIce() {
            if (sky.ices >= MOST_ICES) {
                return reader.fail(FAULT_TOO_MANY);
            }
            reader.next();
            int row = sky.ices * ICE_FACTS;
            int one = reader.takeRock(sky, NONE);
            int other = one == NONE ? NONE : reader.takeRock(sky, one);
            if (other == NONE || !reader.takeWord(WORD_FROM)) {
                return false;
            }
            int since = reader.takeNumber(0, LAST_WEEK);
            if (since == NONE || !reader.takeWord(WORD_TO)) {
                return false;
            }
            int until = reader.takeNumber(since, LAST_WEEK);
            if (until == NONE || !reader.takeSign(';')) {
                return false;
            }
            sky.iceFacts[row + ONE] = one;
            sky.iceFacts[row + OTHER] = other;
            sky.iceFacts[row + SINCE] = since;
            sky.iceFacts[row + UNTIL] = until;
            sky.ices++;
            return true;
        }

        private boolean readLaw() {
            if (lawTold) {
                return reader.fail(FAULT_TWICE);
            }
            lawTold = true;
            reader.next();
            int law = lawOf(reader.keyword);
            if (law == NONE) {
                return reader.fail(FAULT_PLACE);
            }
            sky.law = law;
            reader.next();
            return reader.takeSign(';');
        }

        private static int lawOf(int word) {
            switch (word) {
                case WORD_FIRST:
                    return LAW_FIRST;
                case WORD_LAST:
                    return LAW_LAST;
                case WORD_RANK:
                    return LAW_RANK;
                case WORD_SENT:
                    return LAW_SENT;
                default:
                    return NONE;
            }
        }
    }

    /** Reads YEARS. */
    private static final class YearsReader {
        private final Reader reader;
        /** The rows of when and loop that have no end yet. */
        private final int[] open = new int[MOST_DEPTH];
        private int depth;
        private Years years;
        private Sky sky;

        YearsReader(Reader reader) {
            this.reader = reader;
        }

        boolean readInto(Years goal, Sky names) {
            years = goal;
            sky = names;
            years.clear();
            depth = 0;
            boolean fine = true;
            // Each STEP and each end takes a byte at least.
            for (int turn = 0; turn <= YEARS_BYTES && fine && !reader.isAtEnd(); turn++) {
                fine = reader.keyword == WORD_END ? readEnd() : readStep();
            }
            if (fine && depth > 0) {
                fine = reader.fail(FAULT_PLACE);
            }
            years.there = fine;
            return fine;
        }

        private boolean readEnd() {
            if (depth == 0) {
                return reader.fail(FAULT_PLACE);
            }
            reader.next();
            depth--;
            int row = years.addRow(WORD_END);
            years.partners[row] = open[depth];
            years.partners[open[depth]] = row;
            return reader.takeSign(';');
        }

        private boolean readStep() {
            int word = reader.keyword;
            boolean opens = word == WORD_WHEN || word == WORD_LOOP;
            if (!isStep(word)) {
                return reader.fail(FAULT_PLACE);
            }
            if (years.steps >= MOST_STEPS) {
                return reader.fail(FAULT_TOO_MANY);
            }
            if (opens && depth >= MOST_DEPTH) {
                return reader.fail(FAULT_TOO_DEEP);
            }
            int row = years.addRow(word);
            years.steps++;
            reader.next();
            if (!readRest(word, row) || !reader.takeSign(';')) {
                return false;
            }
            if (opens) {
                open[depth] = row;
                depth++;
            }
            return true;
        }

        private static boolean isStep(int word) {
            return word == WORD_WEEK || word == WORD_WEAR || word == WORD_ORDER || word == WORD_CHANCE
                    || word == WORD_WHEN || word == WORD_LOOP || word == WORD_STOP;
        }

        /** What stands between a STEP's WORD and its ; */
        private boolean readRest(int word, int row) {
            switch (word) {
                case WORD_WEEK:
                case WORD_LOOP:
                    years.first[row] = reader.takeNumber(1, 99);
                    return years.first[row] != NONE;
                case WORD_CHANCE:
                    years.first[row] = reader.takeNumber(0, 16);
                    return years.first[row] != NONE;
                case WORD_ORDER:
                    years.first[row] = reader.takeRock(sky, NONE);
                    return years.first[row] != NONE;
                case WORD_WEAR:
                    years.first[row] = reader.takeRock(sky, NONE);
                    years.second[row] = years.first[row] == NONE ? NONE : reader.takeNumber(0, 1);
                    return years.second[row] != NONE;
                case WORD_WHEN:
                    return readTest(row);
                default:
                    return true;
            }
        }

        private boolean readTest(int row) {
            int word = reader.keyword;
            if (word != WORD_WEEK && word != WORD_WEARS && word != WORD_RULES) {
                return reader.fail(FAULT_PLACE);
            }
            reader.next();
            years.first[row] = word;
            int second = word == WORD_WEEK ? reader.takeCompares() : reader.takeRock(sky, NONE);
            years.second[row] = second;
            if (second == NONE || word == WORD_WEARS) {
                return second != NONE;
            }
            if (word == WORD_RULES && !reader.takeWord(WORD_IN)) {
                return false;
            }
            int third = word == WORD_WEEK ? reader.takeNumber(0, LAST_WEEK) : reader.takeRock(sky, NONE);
            years.third[row] = third;
            return third != NONE;
        }
    }
}
