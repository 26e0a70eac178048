import java.util.Random;

/** All that there may be at once (6 ROCKS, 8 ICES, 20 ORDERS, WEEK 400, 3 MARKS, full TRAYS), and what is asked again and again. */
public final class EdgeFullTests {
    private static final Check CHECK = new Check();
    private static final String NAMES = "abcdef";

    public static void main(String[] args) {
        sixthRockOfNews();
        sixthRockOfOrders();
        sixthRockOfWays();
        sixthRockOfFashions();
        eighthIce();
        week400();
        marksInWeek400();
        nothingIsLeftOfASkyAhead();
        nothingIsLeftOfARefusedSky();
        nothingIsLeftOfRefusedYears();
        nothingIsLeftOfALifeAhead();
        ordersOfAMark();
        seenAsSent();
        everythingAgain();
        CHECK.end();
    }

    /** Six ROCKS, each 1 from each. */
    private static String six(String behindEach) {
        StringBuilder text = new StringBuilder();
        for (int rock = 0; rock < 6; rock++) {
            text.append("rock ").append(NAMES.charAt(rock)).append(" far 1 round 1 at 0").append(behindEach).append(";");
        }
        return text.toString();
    }

    private static void passTo(SlowWorlds x, int week) {
        for (int turn = 0; turn < 9 && x.told(3) < week; turn++) {
            x.pass(Math.min(99, week - x.told(3)));
        }
    }

    private static void sixthRockOfNews() {
        SlowWorlds x = Check.under(six(" price 3"));
        CHECK.fine("22 nearest", x.nearest(5, 0), x, 0);
        CHECK.fine("24 span", x.span(0), x, 1);
        CHECK.fine("26 blind", x.blind(5), x, 1);
        CHECK.fine("23 meetings", x.meetings(5, 4, 0, 400), x, 401);
        CHECK.fine("28 knows", x.knows(5, 0, 0), x, 1);
        CHECK.fine("28 knows", x.knows(0, 0, 5), x, 1);
        CHECK.fine("29 teller", x.teller(0, 0, 5), x, 0);
        CHECK.fine("29 teller", x.teller(5, 0, 4), x, 5);
        CHECK.fine("30 hops", x.hops(5, 0, 4), x, 1);
        CHECK.fine("31 knowing", x.knowing(5, 0, 0), x, 32);
        CHECK.fine("31 knowing", x.knowing(5, 0, 1), x, 63);
        CHECK.fine("32 overtaken", x.overtaken(5, 0), x, 0);
        CHECK.fine("34 latest", x.latest(5, 0), x, 0);
        CHECK.fine("34 latest", x.latest(2, 0), x, 0);
        CHECK.fine("35 centre", x.centre(0), x, 0);
        CHECK.fine("36 cutOff", x.cutOff(5, 0), x, 0);
        CHECK.fine("37 hearsBack", x.hearsBack(5, 0), x, 2);
        CHECK.fine("38 remote", x.remote(0), x, 0);
        x.tray(0, 0, 60);
        CHECK.fine("33 early", x.early(5, 1, 0), x, 63);
        x.write(0, 5, 1);
        CHECK.fine("33 early", x.early(5, 1, 0), x, 31);
        x.tray(1, 0, 5);
        CHECK.refused("33 one too few", x.early(5, 1, 1), x, 3);
        x.tray(1, 0, 6);
        CHECK.fine("33 as many", x.early(5, 0, 1), x, 31);
        SlowWorlds far = Check.under(six("").replace("rock f far 1", "rock f far 20"));
        CHECK.fine("38 the sixth is remote", far.remote(0), far, 5);
        CHECK.fine("34 the sixth is last", far.latest(0, 0), far, 5);
        CHECK.fine("24 to the sixth", far.span(0), far, 19);
        CHECK.fine("26 the sixth", far.blind(5), far, 19);
        SlowWorlds off = Check.under(six("") + "ice f a from 0 to 400;ice f b from 0 to 400;ice f c from 0 to 400;ice f d from 0 to 400;ice f e from 0 to 400;");
        CHECK.fine("36 all but the sixth", off.cutOff(5, 0), off, 31);
        CHECK.fine("36 the sixth", off.cutOff(0, 0), off, 32);
        CHECK.refused("35 from none", off.centre(0), off, 6);
        CHECK.fine("38 the sixth never hears", off.remote(0), off, 5);
        CHECK.fine("26 the sixth SEES none", off.blind(5), off, 401);
    }

    private static void sixthRockOfOrders() {
        SlowWorlds x = Check.under(six(" rank 3") + "law last;");
        for (int order = 0; order < 20; order++) {
            CHECK.fine("39 order", x.order(5), x, order);
        }
        CHECK.fine("40 given", x.given(19, 0), x, 5);
        CHECK.fine("41 heard", x.heard(19, 0), x, 1);
        CHECK.fine("41 heard", x.heard(19, 5), x, 0);
        CHECK.fine("42 rules", x.rules(5, 0), x, 0);
        CHECK.fine("43 ruled", x.ruled(0, 0), x, 32);
        CHECK.fine("43 ruled", x.ruled(0, 1), x, 63);
        CHECK.fine("43 ruled", x.ruled(19, 1), x, 0);
        CHECK.fine("44 before", x.before(18, 19, 5), x, 2);
        CHECK.fine("45 oneForAll", x.oneForAll(19, 0), x, 1);
        CHECK.fine("46 disputes", x.disputes(), x, 0);
        CHECK.fine("47 peace", x.peace(0), x, 1);
        CHECK.fine("48 kth", x.kth(5, 19), x, 19);
        CHECK.refused("48 kth", x.kth(5, 20), x, 6);
        CHECK.fine("49 reign", x.reign(0, 5), x, 501);
        CHECK.fine("49 reign", x.reign(19, 5), x, 0);
        CHECK.fine("50 idle", x.idle(), x, 19);
        CHECK.fine("53 joint", x.joint(19, 63), x, 1);
        CHECK.fine("53 joint", x.joint(19, 32), x, 0);
        CHECK.refused("53 others", x.joint(19, 64), x, 1);
        CHECK.fine("54 confirmed", x.confirmed(19, 63), x, 2);
        CHECK.fine("54 confirmed", x.confirmed(19, 32), x, 0);
        CHECK.fine("55 sure", x.sure(19, 5, 0), x, 1);
        CHECK.fine("55 sure", x.sure(19, 4, 5), x, 2);
    }

    private static void sixthRockOfWays() {
        SlowWorlds x = Check.under(six(" price 9"));
        CHECK.fine("51 echo", x.echo(5, 0, 4), x, 2);
        CHECK.fine("52 answered", x.answered(5, 4, 10), x, 8);
        CHECK.fine("56 cheap", x.cheap(5, 3, 0, 4), x, 1);
        CHECK.fine("56 cheap", x.cheap(0, 3, 5, 460), x, 1);
        CHECK.fine("61 market", x.market(5, 0), x, 0);
        CHECK.fine("60 hoped", x.hoped(5, 1, 4), x, 0);
        // All in a row: 1 a step is cheapest, whoever is asked.
        StringBuilder row = new StringBuilder();
        for (int rock = 0; rock < 6; rock++) {
            row.append("rock ").append(NAMES.charAt(rock)).append(" far ").append(rock + 1).append(" round 1 at 0;");
        }
        SlowWorlds y = Check.under(row.toString());
        for (int from = 0; from < 6; from++) {
            for (int to = 0; to < 6; to++) {
                int way = Math.abs(from - to);
                CHECK.fine("56 " + from + " to " + to, y.cheap(from, 21, to, 21 + way), y, way);
                if (way > 0) {
                    CHECK.refused("56 not by then", y.cheap(from, 21, to, 20 + way), y, 6);
                    // In 400 none is told on: straight alone.
                    CHECK.fine("56 from 400", y.cheap(from, 400, to, 460), y, way * way);
                }
            }
        }
    }

    private static void sixthRockOfFashions() {
        SlowWorlds x = Check.under(six(" wears"));
        x.pass(3);
        CHECK.fine("13 all", x.told(5), x, 63);
        x.wear(5, 0);
        CHECK.fine("13 all but the sixth", x.told(5), x, 31);
        CHECK.fine("66 fashion", x.fashion(4, 5), x, 1);
        CHECK.fine("67 follows", x.follows(5, 4), x, 2);
        CHECK.fine("68 model", x.model(5), x, 0);
        CHECK.fine("69 changes", x.changes(5), x, 1);
        CHECK.fine("70 uniform", x.uniform(), x, 3);
        x.pass(1);
        CHECK.fine("63 the sixth goes with the others", x.told(5), x, 63);
    }

    private static void eighthIce() {
        String text = six("") + "ice a b from 0 to 1;ice a c from 0 to 1;ice a d from 0 to 1;ice a e from 0 to 1;ice b c from 0 to 1;"
                + "ice b d from 0 to 1;ice b e from 0 to 1;ice f e from 7 to 9;";
        SlowWorlds x = Check.under(text);
        CHECK.fine("13 eight", x.told(1), x, 8);
        int[] due = {5, 4, 7, 9};
        for (int what = 0; what < 4; what++) {
            CHECK.fine("15 the eighth", x.ice(7, what), x, due[what]);
        }
        CHECK.refused("15 no ninth", x.ice(8, 0), x, 1);
        CHECK.fine("18 the eighth", x.iced(4, 5, 9), x, 1);
        CHECK.refused("19 the eighth", x.arrives(5, 7, 4), x, 6);
        CHECK.fine("19 behind it", x.arrives(5, 10, 4), x, 11);
    }

    private static void week400() {
        SlowWorlds x = Check.under(six(""));
        Check.years(x, "wear a 1;chance 16;week 1;order f;");
        passTo(x, 400);
        CHECK.fine("39 order", x.order(5), x, 0);
        CHECK.fine("41 heard", x.heard(0, 0), x, 401);
        CHECK.fine("65 wear", x.wear(5, 1), x);
        CHECK.fine("64 wore", x.wore(5, 400), x, 1);
        CHECK.fine("66 fashion", x.fashion(4, 5), x, 0);
        CHECK.fine("67 follows", x.follows(4, 5), x, 400);
        CHECK.fine("69 changes", x.changes(5), x, 1);
        CHECK.fine("70 uniform", x.uniform(), x, 400);
        CHECK.fine("73 mean", x.mean(0, 10), x);
        CHECK.same("73 a and f are turned back", x.top() * 10 + x.bottom(), 41);
        CHECK.fine("71 live", x.live(0), x, 4);
        CHECK.fine("72 MISSED", x.lived(0), x, 1);
        CHECK.fine("13 all but a and f", x.told(5), x, 30);
    }

    private static void marksInWeek400() {
        SlowWorlds x = Check.under(six(""));
        passTo(x, 399);
        CHECK.fine("74 in 399", x.mark(), x, 1);
        x.pass(1);
        x.wear(3, 1);
        CHECK.fine("74 in 400", x.mark(), x, 2);
        CHECK.fine("74 in 400", x.mark(), x, 3);
        x.wear(3, 0);
        CHECK.fine("75 in 400", x.back(), x, 2);
        CHECK.fine("64 400", x.wore(3, 400), x, 1);
        x.wear(3, 0);
        CHECK.fine("75 in 400", x.back(), x, 1);
        CHECK.fine("64 400", x.wore(3, 400), x, 1);
        CHECK.fine("75 to 399", x.back(), x, 0);
        CHECK.refused("64 400 is not yet", x.wore(3, 400), x, 1);
        CHECK.fine("63 400", x.pass(1), x, 400);
        CHECK.fine("64 400", x.wore(3, 400), x, 0);
    }

    /** What a ROCK has not in the new SKY it has not by the old one. */
    private static void nothingIsLeftOfASkyAhead() {
        SlowWorlds x = Check.under("rock a far 9 round 9 at 9 rank 9 price 9 swing 9 wears;rock b far 9 round 9 at 9 rank 9 price 9 swing 9 wears;"
                + "ice a b from 0 to 400;law sent;");
        Check.sky(x, "rock c far 1 round 1 at 1;rock d far 1 round 1 at 1;");
        for (int rock = 0; rock < 2; rock++) {
            int[] due = {1, 1, 1, 0, 0, 0};
            for (int what = 0; what < 6; what++) {
                CHECK.fine("14 what " + what, x.rock(rock, what), x, due[what]);
            }
        }
        CHECK.fine("13 LAW", x.told(2), x, 0);
        CHECK.fine("13 the old fashion", x.told(5), x, 0);
        CHECK.fine("18 no ICE", x.iced(0, 1, 7), x, 0);
        CHECK.fine("19 no ICE", x.arrives(0, 7, 1), x, 8);
    }

    private static void nothingIsLeftOfARefusedSky() {
        SlowWorlds x = new SlowWorlds();
        CHECK.refused("10 a FAULT at the end", Check.sky(x, "rock a far 9 round 9 at 9 rank 9 price 9 swing 9 wears;rock b far 9 round 9 at 9;"
                + "ice a b from 0 to 400;law sent;!"), x, 9);
        CHECK.fine("13 no ROCKS", x.told(0), x, 0);
        CHECK.fine("13 LAW", x.told(2), x, 0);
        CHECK.fine("10 the same NAME, and a law", Check.sky(x, "rock a far 1 round 1 at 1;law last;"), x, 1);
        CHECK.fine("14 no RANK", x.rock(0, 3), x, 0);
        CHECK.fine("14 no PRICE", x.rock(0, 4), x, 0);
        CHECK.fine("14 no SWING", x.rock(0, 5), x, 0);
        CHECK.fine("13 the old fashion", x.told(5), x, 0);
        CHECK.fine("13 no ICE", x.told(1), x, 0);
        CHECK.refused("10 a FAULT within a rock", Check.sky(x, "rock b far 1 round 1 at 1 rank 10;"), x, 9);
        CHECK.fine("10 rank without", Check.sky(x, "rock b far 1 round 1 at 1;"), x, 1);
        CHECK.fine("14 no RANK", x.rock(0, 3), x, 0);
    }

    private static void nothingIsLeftOfRefusedYears() {
        SlowWorlds x = Check.under(six(""));
        String[] bad = {"loop 9;", "loop 9;loop 9;when wears a;", "loop 9;loop 9;loop 9;loop 9;", "week 1;week 2;!", "loop 9;end;end;"};
        for (String text : bad) {
            CHECK.refused("11 " + text, Check.years(x, text), x, 9);
            CHECK.refused("11 no beginning is left of " + text, Check.years(x, "end;"), x, 9);
            CHECK.same("12 at it", x.fault(1), 0);
            CHECK.refused("11 " + text, Check.years(x, text), x, 9);
            CHECK.fine("11 behind " + text, Check.years(x, "loop 1;loop 1;loop 1;wear a 1;end;end;end;"), x, 4);
            CHECK.fine("71 behind " + text, x.live(0), x, 4);
        }
    }

    /** 72: each live() counts anew. */
    private static void nothingIsLeftOfALifeAhead() {
        SlowWorlds x = Check.under(six(""));
        Check.years(x, "loop 99;order a;week 4;chance 16;end;");
        CHECK.fine("71 a long one", x.live(0), x, 200);
        int[] due = {67 - 20, 264, 66 * 6, 20, 1};
        for (int what = 0; what < 5; what++) {
            CHECK.fine("72 a long one, " + what, x.lived(what), x, due[what]);
        }
        Check.years(x, "wear a 1;");
        CHECK.fine("71 a short one", x.live(0), x, 1);
        for (int what = 0; what < 5; what++) {
            CHECK.fine("72 a short one, " + what, x.lived(what), x, 0);
        }
        // A loop that a stop, or the 200th STEP, left open is not gone on with.
        Check.years(x, "loop 99;loop 99;loop 99;stop;end;end;end;");
        CHECK.fine("71 stopped", x.live(0), x, 4);
        Check.years(x, "when wears a;when wears a;when wears a;wear b 1;end;end;end;");
        CHECK.fine("71 once each", x.live(0), x, 4);
        Check.years(x, "loop 2;wear b 1;end;");
        CHECK.fine("71 twice", x.live(0), x, 3);
    }

    /** 75: by whom ORDERS were given, when, and who KNOWS them, all is as at the MARK. */
    private static void ordersOfAMark() {
        SlowWorlds x = Check.under(six("") + "ice a b from 0 to 400;");
        x.order(0);
        x.pass(2);
        x.order(1);
        x.mark();
        Check.sky(x, six("").replace("far 1", "far 3"));
        x.pass(9);
        x.order(4);
        x.order(5);
        x.order(3);
        x.back();
        int[][] due = {{0, 0, 2}, {1, 2, 2}};
        for (int order = 0; order < 2; order++) {
            CHECK.fine("75 by whom", x.given(order, 0), x, due[order][0]);
            CHECK.fine("75 when", x.given(order, 1), x, due[order][1]);
        }
        CHECK.fine("75 b KNOWS it by others", x.heard(0, 1), x, 2);
        CHECK.fine("75 a KNOWS it by others", x.heard(1, 0), x, 4);
        CHECK.fine("75 two", x.told(4), x, 2);
        CHECK.fine("39 the third", x.order(2), x, 2);
    }

    private static final String MANY = "rock a far 20 round 7 at 0;rock b far 20 round 99 at 6;rock c far 0 round 1 at 1;rock d far 20 round 2 at 1;"
            + "rock e far 7 round 12 at 11;rock f far 1 round 5 at 5;ice a b from 0 to 40;ice b f from 3 to 90;ice c d from 0 to 0;"
            + "ice a d from 200 to 400;ice a e from 11 to 12;ice e f from 395 to 400;ice d b from 50 to 60;ice b d from 55 to 70;";

    /** 21 by 19: whatever was asked ahead, in whichever order. */
    private static void seenAsSent() {
        int[][] sent = new int[36][401];
        for (int couple = 0; couple < 36; couple++) {
            SlowWorlds x = Check.under(MANY);
            for (int week = 0; week <= 400; week++) {
                sent[couple][week] = x.arrives(couple / 6, week, couple % 6);
            }
        }
        for (int seed = 0; seed < 40; seed++) {
            Random random = new Random(seed);
            SlowWorlds x = Check.under(MANY);
            int rock = random.nextInt(6);
            for (int call = 0; call < 400; call++) {
                int seer = random.nextInt(3) == 0 ? random.nextInt(6) : rock;
                int other = random.nextInt(6);
                int week = random.nextBoolean() ? random.nextInt(401) : random.nextInt(40);
                int due = -1;
                for (int w = 0; w <= week; w++) {
                    int there = sent[other * 6 + seer][w];
                    due = there >= 0 && there <= week ? w : due;
                }
                CHECK.same("21 " + seer + " of " + other + " in " + week, x.sees(seer, other, week), due);
            }
        }
    }

    /** Each question is answered the same when it is asked once more, and by an object that was asked others. */
    private static void everythingAgain() {
        for (int rock = 0; rock < 6; rock++) {
            for (int week = 0; week <= 400; week += 50) {
                SlowWorlds x = Check.under(MANY);
                SlowWorlds y = Check.under(MANY);
                y.cheap(5 - rock, 0, rock, 460);
                y.blind(rock);
                y.remote(7);
                for (int other = 0; other < 6; other++) {
                    String what = rock + " in " + week + " of " + other;
                    int knows = x.knows(rock, week, other);
                    CHECK.same("28 again " + what, x.knows(rock, week, other), knows);
                    CHECK.same("28 by another " + what, y.knows(rock, week, other), knows);
                    int cheap = x.cheap(rock, week, other, 460);
                    CHECK.same("56 again " + what, x.cheap(rock, week, other, 460), cheap);
                    CHECK.same("56 by another " + what, y.cheap(rock, week, other, 460), cheap);
                    // The other way round it need not be: CHEAP ways may come to a ROCK more than once.
                    CHECK.isTrue("56 there, as it is KNOWN " + what, knows < 0 || cheap >= 0);
                    if (knows >= 0 && knows <= 460) {
                        CHECK.isTrue("56 as soon as KNOWN " + what, x.cheap(rock, week, other, knows) >= cheap);
                    }
                    int arrives = x.arrives(rock, week, other);
                    CHECK.same("19 by another " + what, y.arrives(rock, week, other), arrives);
                    CHECK.isTrue("28 no later than straight " + what, arrives < 0 || knows <= arrives);
                }
            }
        }
    }
}
