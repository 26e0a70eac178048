/** Promises 63 to 75: fashions, YEARS that are lived, MARKS; each sentence that names an edge. */
public final class EdgeLifeTests {
    private static final Check CHECK = new Check();
    private static final String NEAR = " far 1 round 1 at 0";

    public static void main(String[] args) {
        weeksGoBy();
        asManyOrMoreOrFewer();
        noneIsSeen();
        onlyTheWeekAhead();
        woreUpToNow();
        wearFromNowOn();
        fashionAsItIsSeen();
        followsFromWeekOne();
        modelOfSeveral();
        changesAndUniform();
        seeds();
        draws();
        chances();
        weeksThatAreMissed();
        ordersThatAreMissed();
        tests();
        testsOfRulers();
        loops();
        stops();
        twoHundredSteps();
        stepsLeft();
        livedOfTheLatest();
        meansOfSeeds();
        meanLeavesAll();
        threeMarks();
        marksKeepAll();
        marksKeepNoMore();
        CHECK.end();
    }

    private static void passTo(SlowWorlds x, int week) {
        for (int turn = 0; turn < 9 && x.told(3) < week; turn++) {
            x.pass(Math.min(99, week - x.told(3)));
        }
    }

    /** So many ROCKS that are 1 apart; those of the set WEAR the new fashion. */
    private static String near(int many, int wearers) {
        StringBuilder text = new StringBuilder();
        for (int rock = 0; rock < many; rock++) {
            text.append("rock ").append((char) ('a' + rock)).append(NEAR).append((wearers >> rock & 1) == 1 ? " wears;" : ";");
        }
        return text.toString();
    }

    private static SlowWorlds with(String sky, String years) {
        SlowWorlds x = Check.under(sky);
        CHECK.isTrue("11 " + years, Check.years(x, years) >= 0);
        return x;
    }

    private static void lives(String what, SlowWorlds x, int seed, int steps, int... due) {
        CHECK.fine(what, x.live(seed), x, steps);
        livedIs(what, x, due);
    }

    private static void livedIs(String what, SlowWorlds x, int... due) {
        for (int i = 0; i < due.length; i++) {
            CHECK.fine(what + ", lived " + i, x.lived(i), x, due[i]);
        }
    }

    /** 63: 1 to 99; 4: behind WEEK 400. */
    private static void weeksGoBy() {
        SlowWorlds x = Check.under(near(2, 1));
        CHECK.refused("63 0", x.pass(0), x, 1);
        CHECK.refused("63 -1", x.pass(-1), x, 1);
        CHECK.refused("63 100", x.pass(100), x, 1);
        CHECK.fine("63 1", x.pass(1), x, 1);
        CHECK.fine("63 99", x.pass(99), x, 100);
        CHECK.fine("63 99", x.pass(99), x, 199);
        CHECK.fine("63 99", x.pass(99), x, 298);
        CHECK.fine("63 4", x.pass(4), x, 302);
        CHECK.refused("63 to 401", x.pass(99), x, 4);
        CHECK.fine("63 it is 302 still", x.told(3), x, 302);
        CHECK.refused("64 nothing went by", x.wore(0, 303), x, 1);
        CHECK.fine("63 to 400", x.pass(98), x, 400);
        CHECK.refused("63 to 401", x.pass(1), x, 4);
        CHECK.fine("63 it is 400 still", x.told(3), x, 400);
        CHECK.fine("64 400", x.wore(0, 400), x, 1);
        CHECK.refused("64 401", x.wore(0, 401), x, 1);
    }

    /** Block 4: the new one, if more of those it SEES wore it; the old one, if fewer; else as ahead. */
    private static void asManyOrMoreOrFewer() {
        for (int many = 1; many <= 6; many++) {
            for (int wearers = 0; wearers < 1 << many; wearers++) {
                SlowWorlds x = Check.under(near(many, wearers));
                x.pass(1);
                int due = 0;
                for (int rock = 0; rock < many; rock++) {
                    int others = Integer.bitCount(wearers & ~(1 << rock));
                    int old = many - 1 - others;
                    boolean wears = others > old || others == old && (wearers >> rock & 1) == 1;
                    due |= wears ? 1 << rock : 0;
                }
                CHECK.fine("63 of " + many + " set " + wearers, x.told(5), x, due);
            }
        }
    }

    /** Block 4: who SEES none (yet, or by ICE) is as ahead; who is not SEEN does not count. */
    private static void noneIsSeen() {
        SlowWorlds x = Check.under("rock a far 0 round 1 at 0 wears;rock b far 3 round 1 at 0;");
        x.pass(2);
        CHECK.fine("63 as ahead", x.told(5), x, 1);
        x.pass(1);
        CHECK.fine("63 SEEN in 3: each as the other was", x.told(5), x, 2);
        SlowWorlds iced = Check.under(near(2, 1) + "ice a b from 0 to 400;");
        passTo(iced, 400);
        CHECK.fine("63 as ahead for good", iced.told(5), iced, 1);
        SlowWorlds some = Check.under(near(3, 1) + "ice b c from 0 to 400;");
        some.pass(1);
        // a SEES two old ones; b and c SEE a alone.
        CHECK.fine("63 who is not SEEN does not count", some.told(5), some, 6);
        SlowWorlds alone = Check.under(near(1, 1));
        alone.pass(99);
        CHECK.fine("63 one alone", alone.told(5), alone, 1);
    }

    /** Block 4: only what was up to the WEEK ahead is SEEN, each ROCK changes by that. */
    private static void onlyTheWeekAhead() {
        SlowWorlds x = Check.under(near(2, 1));
        for (int week = 1; week <= 5; week++) {
            x.pass(1);
            CHECK.fine("63 they change places, WEEK " + week, x.told(5), x, week % 2 == 1 ? 2 : 1);
        }
        SlowWorlds once = Check.under(near(2, 1));
        once.pass(5);
        CHECK.fine("63 five at once are five one by one", once.told(5), once, 2);
        for (int week = 0; week <= 5; week++) {
            CHECK.fine("64 WEEK " + week, once.wore(0, week), once, week % 2 == 0 ? 1 : 0);
        }
    }

    /** 64: 0 to now. */
    private static void woreUpToNow() {
        SlowWorlds x = Check.under(near(2, 2));
        CHECK.fine("64 WEEK 0", x.wore(1, 0), x, 1);
        CHECK.fine("64 WEEK 0", x.wore(0, 0), x, 0);
        CHECK.refused("64 WEEK 1 is not yet", x.wore(0, 1), x, 1);
        x.pass(1);
        CHECK.fine("64 WEEK 1", x.wore(0, 1), x, 1);
        CHECK.refused("64 WEEK 2 is not yet", x.wore(0, 2), x, 1);
        CHECK.refused("64 -1", x.wore(0, -1), x, 1);
        Check.sky(x, near(2, 0));
        CHECK.refused("64 WEEK 1 is not there any more", x.wore(0, 1), x, 1);
    }

    /** 65: from now on. */
    private static void wearFromNowOn() {
        SlowWorlds x = Check.under(near(2, 0) + "ice a b from 0 to 400;");
        x.pass(3);
        CHECK.fine("65 the new one", x.wear(1, 1), x);
        CHECK.fine("65 the same again", x.wear(1, 1), x);
        CHECK.fine("64 the WEEK ahead", x.wore(1, 2), x, 0);
        CHECK.fine("64 now", x.wore(1, 3), x, 1);
        CHECK.fine("64 the other one", x.wore(0, 3), x, 0);
        x.pass(1);
        CHECK.fine("64 from now on", x.wore(1, 4), x, 1);
        CHECK.fine("65 the old one", x.wear(1, 0), x);
        CHECK.fine("64 now", x.wore(1, 4), x, 0);
        CHECK.fine("64 as it was", x.wore(1, 3), x, 1);
        CHECK.refused("65 2", x.wear(1, 2), x, 1);
        CHECK.refused("65 -1", x.wear(1, -1), x, 1);
        CHECK.refused("65 no such ROCK", x.wear(2, 1), x, 1);
        CHECK.fine("65 a refused one changes nothing", x.told(5), x, 0);
    }

    /** 66: what a ROCK sees another one WEAR now; 6: not SEEN. */
    private static void fashionAsItIsSeen() {
        SlowWorlds x = Check.under("rock a far 0 round 1 at 0;rock b far 3 round 1 at 0 wears;ice a b from 2 to 400;");
        CHECK.refused("66 WEEK 0", x.fashion(0, 1), x, 6);
        x.pass(2);
        CHECK.refused("66 WEEK 2", x.fashion(0, 1), x, 6);
        x.wear(1, 0);
        x.pass(1);
        CHECK.fine("66 as it was in 0", x.fashion(0, 1), x, 1);
        CHECK.fine("66 as it was in 0", x.fashion(1, 0), x, 0);
        x.pass(1);
        CHECK.fine("66 as it was in 1", x.fashion(0, 1), x, 1);
        passTo(x, 400);
        CHECK.fine("66 as it was in 1, in 400", x.fashion(0, 1), x, 1);
        CHECK.refused("66 one and itself", x.fashion(0, 0), x, 1);
    }

    /** 67: in how many WEEKS from 1 to now, of WEEKS in which it was SEEN. */
    private static void followsFromWeekOne() {
        SlowWorlds x = Check.under(near(2, 3));
        CHECK.fine("67 WEEK 0 does not count", x.follows(0, 1), x, 0);
        x.pass(1);
        CHECK.fine("67 WEEK 1", x.follows(0, 1), x, 1);
        passTo(x, 400);
        CHECK.fine("67 WEEKS 1 to 400", x.follows(1, 0), x, 400);
        x.wear(0, 0);
        CHECK.fine("67 not now", x.follows(0, 1), x, 399);
        CHECK.fine("67 a WEEK late: a of 399", x.follows(1, 0), x, 400);
        SlowWorlds far = Check.under("rock a far 0 round 1 at 0;rock b far 3 round 1 at 0;");
        far.pass(2);
        CHECK.fine("67 not SEEN yet", far.follows(0, 1), far, 0);
        far.pass(1);
        CHECK.fine("67 SEEN in 3", far.follows(0, 1), far, 1);
        SlowWorlds iced = Check.under(near(2, 0) + "ice a b from 0 to 400;");
        passTo(iced, 400);
        CHECK.fine("67 never SEEN", iced.follows(0, 1), iced, 0);
        CHECK.refused("67 one and itself", iced.follows(1, 1), iced, 1);
    }

    /** 68: of several the first; 6: no other one. */
    private static void modelOfSeveral() {
        SlowWorlds x = Check.under(near(3, 0));
        CHECK.fine("68 none in WEEK 0: the first other one", x.model(0), x, 1);
        CHECK.fine("68 none in WEEK 0: the first other one", x.model(2), x, 0);
        x.pass(4);
        CHECK.fine("68 both alike", x.model(0), x, 1);
        SlowWorlds y = Check.under(near(3, 0) + "ice a b from 0 to 400;");
        y.pass(1);
        CHECK.fine("68 c", y.model(0), y, 2);
        CHECK.fine("68 c", y.model(1), y, 2);
        CHECK.fine("68 a and b", y.model(2), y, 0);
        SlowWorlds alone = Check.under(near(1, 0));
        CHECK.refused("68 no other one", alone.model(0), alone, 6);
        CHECK.refused("68 no such ROCK", alone.model(1), alone, 1);
    }

    /** 69: from 1 to now; 70: from 0 to now, each one without ROCKS. */
    private static void changesAndUniform() {
        SlowWorlds x = Check.under(near(2, 1));
        CHECK.fine("69 WEEK 0", x.changes(0), x, 0);
        x.wear(0, 0);
        CHECK.fine("69 WEEK 0 has none ahead", x.changes(0), x, 0);
        CHECK.fine("70 WEEK 0", x.uniform(), x, 1);
        x.wear(0, 1);
        CHECK.fine("70 not WEEK 0", x.uniform(), x, 0);
        passTo(x, 400);
        CHECK.fine("69 each WEEK", x.changes(0), x, 400);
        CHECK.fine("69 each WEEK", x.changes(1), x, 400);
        CHECK.fine("70 never", x.uniform(), x, 0);
        x.wear(0, 0);
        CHECK.fine("69 now as in the WEEK ahead", x.changes(0), x, 399);
        x.wear(1, 0);
        CHECK.fine("70 now", x.uniform(), x, 1);
        SlowWorlds six = Check.under(near(6, 63));
        passTo(six, 400);
        CHECK.fine("70 all new", six.uniform(), six, 401);
        six.wear(5, 0);
        CHECK.fine("70 but now", six.uniform(), six, 400);
        SlowWorlds one = Check.under(near(1, 0));
        one.pass(1);
        one.wear(0, 1);
        CHECK.fine("70 one alone", one.uniform(), one, 2);
        SlowWorlds none = new SlowWorlds();
        passTo(none, 400);
        CHECK.fine("70 each one without ROCKS", none.uniform(), none, 401);
    }

    /** 71: a seed (0 to 9,999); 6: no YEARS. */
    private static void seeds() {
        SlowWorlds x = with(near(1, 0), "chance 8;");
        CHECK.refused("71 -1", x.live(-1), x, 1);
        CHECK.refused("71 10,000", x.live(10000), x, 1);
        CHECK.fine("71 0", x.live(0), x, 1);
        CHECK.fine("71 9,999", x.live(9999), x, 1);
        SlowWorlds none = Check.under(near(1, 0));
        CHECK.refused("71 no YEARS", none.live(0), none, 6);
        CHECK.refused("71 no YEARS, 10,000", none.live(10000), none, 1);
        CHECK.refused("72 there was none", none.lived(0), none, 6);
        CHECK.refused("72 there was none, 5", none.lived(5), none, 1);
    }

    /** The draws of a seed, by the words of block 4. */
    private static int[] drawn(int seed, int many) {
        int[] all = new int[many];
        long s = seed;
        for (int i = 0; i < many; i++) {
            s = (s * 2893 + 11093) % 65536;
            all[i] = (int) (s / 8 % 16);
        }
        return all;
    }

    /** Block 4: s becomes what is left of s times 2,893 and 11,093 by 65,536; the draw is s by 8, rounded down, by 16. */
    private static void draws() {
        // By hand: of 0 s is 11,093, by 8 1,386, which leaves 10. Of 1 it is 13,986, by 8 1,748: 4.
        // Of 9,999 it is 28,938,200 less 441 times 65,536, which is 36,824, by 8 4,603: 11.
        CHECK.same("71 the draw of 0", drawn(0, 1)[0], 10);
        CHECK.same("71 the draw of 1", drawn(1, 1)[0], 4);
        CHECK.same("71 the draw of 9,999", drawn(9999, 1)[0], 11);
        for (int seed : new int[] {0, 1, 2, 77, 5000, 9998, 9999}) {
            for (int chance = 0; chance <= 16; chance++) {
                SlowWorlds x = with(near(6, 0), "chance " + chance + ";");
                CHECK.fine("71 live", x.live(seed), x, 1);
                int due = 0;
                for (int rock = 0; rock < 6; rock++) {
                    due |= drawn(seed, 6)[rock] < chance ? 1 << rock : 0;
                }
                CHECK.fine("71 chance " + chance + " of " + seed, x.told(5), x, due);
                CHECK.fine("72 turned", x.lived(2), x, Integer.bitCount(due));
            }
        }
    }

    /** chance n (0 to 16): ROCK by ROCK a draw; the fashion is turned round. */
    private static void chances() {
        SlowWorlds none = with(near(3, 5), "chance 0;");
        lives("71 0 turns none", none, 5, 1, 0, 0, 0, 0, 0);
        CHECK.fine("71 0 turns none", none.told(5), none, 5);
        SlowWorlds all = with(near(3, 5), "chance 16;");
        lives("71 16 turns all", all, 5, 1, 0, 0, 3, 0, 0);
        CHECK.fine("71 round", all.told(5), all, 2);
        SlowWorlds twice = with(near(3, 5), "chance 16;chance 16;");
        lives("71 and round again", twice, 5, 2, 0, 0, 6, 0, 0);
        CHECK.fine("71 and round again", twice.told(5), twice, 5);
        // Draws go on from STEP to STEP, by a chance of 0 and of 16, too, and begin with the seed each time.
        SlowWorlds on = with(near(3, 0), "chance 0;chance 16;loop 2;chance 6;end;");
        int due = 7;
        int turned = 3;
        for (int i = 6; i < 12; i++) {
            due ^= drawn(1234, 12)[i] < 6 ? 1 << i % 3 : 0;
            turned += drawn(1234, 12)[i] < 6 ? 1 : 0;
        }
        lives("71 on and on", on, 1234, 5, 0, 0, turned, 0, 0);
        CHECK.fine("71 on and on", on.told(5), on, due);
        int first = on.told(5);
        lives("71 the same seed turns the same", on, 1234, 5, 0, 0, turned, 0, 0);
        CHECK.fine("71 the same seed turns the same", on.told(5), on, first ^ due);
        SlowWorlds empty = with("", "chance 16;");
        lives("71 without ROCKS", empty, 0, 1, 0, 0, 0, 0, 0);
    }

    /** week: MISSED as soon as one can't (those ahead of it went by). */
    private static void weeksThatAreMissed() {
        SlowWorlds x = with(near(2, 1), "week 99;week 99;week 99;week 99;week 4;");
        lives("71 to 400", x, 0, 5, 0, 400, 0, 0, 0);
        CHECK.fine("71 400", x.told(3), x, 400);
        lives("71 none goes by any more", x, 0, 5, 5, 0, 0, 0, 0);
        CHECK.fine("71 400 still", x.told(3), x, 400);
        SlowWorlds some = with(near(2, 1), "week 3;");
        passTo(some, 398);
        lives("71 two of three", some, 0, 1, 1, 2, 0, 0, 0);
        CHECK.fine("71 400", some.told(3), some, 400);
        CHECK.fine("64 they went by", some.wore(0, 400), some, 1);
        SlowWorlds just = with(near(2, 1), "week 2;");
        passTo(just, 398);
        lives("71 two of two", just, 0, 1, 0, 2, 0, 0, 0);
        SlowWorlds loop = with(near(2, 1), "loop 9;week 99;end;wear a 1;");
        lives("71 the STEPS behind it are done", loop, 0, 11, 5, 400, 0, 0, 0);
    }

    /** order: by a ROCK now (MISSED: a 21st). */
    private static void ordersThatAreMissed() {
        SlowWorlds x = with(near(2, 0), "loop 20;order b;end;");
        lives("71 twenty", x, 0, 21, 0, 0, 0, 20, 0);
        CHECK.fine("13 twenty", x.told(4), x, 20);
        lives("71 none more", x, 0, 21, 20, 0, 0, 0, 0);
        CHECK.fine("13 twenty", x.told(4), x, 20);
        SlowWorlds some = with(near(2, 0), "week 2;order b;order a;");
        for (int order = 0; order < 19; order++) {
            some.order(0);
        }
        lives("71 one of two", some, 0, 3, 1, 2, 0, 1, 0);
        CHECK.fine("40 by b", some.given(19, 0), some, 1);
        CHECK.fine("40 in 2", some.given(19, 1), some, 2);
        SlowWorlds late = with(near(2, 0), "order b;");
        passTo(late, 400);
        lives("71 in 400", late, 0, 1, 0, 0, 0, 1, 0);
        CHECK.fine("41 in 401", late.heard(0, 0), late, 401);
    }

    /** when week: < or > or =, 0 to 400; wears: WEARS the new one now. */
    private static void tests() {
        String years = "when week<N;wear a 1;end;when week=N;wear b 1;end;when week>N;wear c 1;end;";
        int[][] rows = {{0, 0, 2}, {0, 1, 1}, {1, 0, 4}, {5, 4, 4}, {5, 5, 2}, {5, 6, 1}, {400, 400, 2}, {400, 399, 4}, {399, 400, 1}, {0, 400, 1}};
        for (int[] row : rows) {
            SlowWorlds x = with(near(3, 0), years.replace("N", String.valueOf(row[1])));
            passTo(x, row[0]);
            CHECK.fine("71 three tests and one STEP", x.live(0), x, 4);
            CHECK.fine("71 WEEK " + row[0] + " by " + row[1], x.told(5), x, row[2]);
        }
        SlowWorlds wears = with(near(2, 1), "when wears a;week 1;end;when wears a;order a;end;when wears b;order b;end;");
        lives("71 as they are now", wears, 0, 5, 0, 1, 0, 1, 0);
        CHECK.fine("40 by b", wears.given(0, 0), wears, 1);
        SlowWorlds set = with(near(2, 0), "when wears a;order a;end;wear a 1;when wears a;order b;end;wear a 0;when wears a;order a;end;");
        lives("71 wear", set, 0, 6, 0, 0, 0, 1, 0);
        CHECK.fine("65 the old one", set.told(5), set, 0);
    }

    /** rules: an ORDER of the first ROCK RULES at the second now. */
    private static void testsOfRulers() {
        SlowWorlds x = with(near(2, 0), "when rules a in b;wear a 1;end;");
        lives("71 no ORDERS", x, 0, 1, 0, 0, 0, 0, 0);
        x.order(0);
        lives("71 b does not KNOW it yet", x, 0, 1, 0, 0, 0, 0, 0);
        x.pass(1);
        lives("71 b KNOWS it", x, 0, 2, 0, 0, 0, 0, 0);
        CHECK.fine("71 b KNOWS it", x.told(5), x, 1);
        SlowWorlds other = with(near(2, 0), "order b;when rules a in b;wear a 1;end;when rules b in b;wear b 1;end;when rules b in a;wear a 1;end;");
        lives("71 its own at once", other, 0, 5, 0, 0, 0, 1, 0);
        CHECK.fine("71 its own at once", other.told(5), other, 2);
        // Another ORDER of the same ROCK will do, too.
        SlowWorlds any = with(near(2, 0) + "law last;", "order a;week 1;order a;week 1;when rules a in b;wear b 1;end;");
        lives("71 any ORDER of it", any, 0, 6, 0, 2, 0, 2, 0);
        CHECK.fine("71 any ORDER of it", any.told(5), any, 2);
    }

    /** loop n (1 to 99): as often; when, loop count as one each time they are come to from ahead; end does not. */
    private static void loops() {
        SlowWorlds once = with(near(1, 0), "loop 1;week 1;end;");
        lives("71 once", once, 0, 2, 0, 1, 0, 0, 0);
        SlowWorlds most = with(near(1, 0), "loop 99;week 1;end;");
        lives("71 99 times", most, 0, 100, 0, 99, 0, 0, 0);
        SlowWorlds empty = with(near(1, 0), "loop 99;end;");
        lives("71 nothing 99 times", empty, 0, 1, 0, 0, 0, 0, 0);
        SlowWorlds nested = with(near(1, 0), "loop 3;loop 4;loop 5;week 1;end;end;end;");
        // 1 and 3 times (1 and 4 times (1 and 5)).
        lives("71 three deep", nested, 0, 1 + 3 * (1 + 4 * (1 + 5)), 0, 60, 0, 0, 0);
        SlowWorlds again = with(near(1, 0), "loop 2;loop 2;end;when week<1;week 1;end;end;");
        // loop, (loop, when, week), (loop, when).
        lives("71 from ahead each time", again, 0, 6, 0, 1, 0, 0, 0);
        SlowWorlds behind = with(near(1, 0), "loop 2;week 1;end;loop 3;week 1;end;");
        lives("71 one behind the other", behind, 0, 7, 0, 5, 0, 0, 0);
        lives("71 once more", behind, 0, 7, 0, 5, 0, 0, 0);
        CHECK.fine("71 once more", behind.told(3), behind, 10);
        SlowWorlds skipped = with(near(1, 0), "when wears a;loop 9;when wears a;week 1;end;end;end;week 2;");
        lives("71 what is skipped counts not", skipped, 0, 2, 0, 2, 0, 0, 0);
    }

    /** stop: the rest is not done, and none is left to be done. */
    private static void stops() {
        SlowWorlds x = with(near(1, 0), "stop;");
        lives("71 stop", x, 0, 1, 0, 0, 0, 0, 0);
        SlowWorlds deep = with(near(1, 0), "loop 9;loop 9;when week=0;stop;end;end;end;week 1;");
        lives("71 stop within three", deep, 0, 4, 0, 0, 0, 0, 0);
        SlowWorlds not = with(near(1, 0), "when week>0;stop;end;week 1;");
        lives("71 a stop that is not come to", not, 0, 2, 0, 1, 0, 0, 0);
        lives("71 one that is", not, 0, 2, 0, 0, 0, 0, 0);
    }

    /** At most 200 STEPS; 72: 1 if a STEP was left to be done, else 0. */
    private static void twoHundredSteps() {
        String loop = "loop 99;wear a 1;wear a 0;end;";
        SlowWorlds less = with(near(2, 0), loop);
        lives("71 199", less, 0, 199, 0, 0, 0, 0, 0);
        SlowWorlds just = with(near(2, 0), loop + "wear b 1;");
        lives("71 200", just, 0, 200, 0, 0, 0, 0, 0);
        CHECK.fine("71 the last was done", just.told(5), just, 2);
        SlowWorlds more = with(near(2, 0), loop + "wear b 1;wear a 1;");
        lives("71 201", more, 0, 200, 0, 0, 0, 0, 1);
        CHECK.fine("71 the last was not done", more.told(5), more, 2);
        SlowWorlds ahead = with(near(2, 0), "wear b 1;" + loop);
        lives("71 200, the end of the loop behind them", ahead, 0, 200, 0, 0, 0, 0, 0);
        SlowWorlds two = with(near(2, 0), "wear b 1;wear b 1;" + loop);
        lives("71 201, the last within the loop", two, 0, 200, 0, 0, 0, 0, 1);
        CHECK.fine("71 it was not done", two.told(5), two, 3);
        SlowWorlds missed = with(near(2, 0), "loop 99;week 99;order a;end;week 1;week 1;");
        // Of 200 STEPS 1 is the loop, 99 WEEKS (4 fine, the fifth in part), 99 ORDERS (20 fine), 1 week.
        lives("71 MISSED ones count", missed, 0, 200, 95 + 79 + 1, 400, 0, 20, 1);
    }

    /** 72: what comes behind the 200th and is no STEP that would be done. */
    private static void stepsLeft() {
        String loop = "loop 99;wear a 1;wear a 0;end;";
        SlowWorlds ends = with(near(2, 0), "when week=0;" + loop + "end;");
        lives("71 the ends alone", ends, 0, 200, 0, 0, 0, 0, 0);
        SlowWorlds empty = with(near(2, 0), loop + "loop 99;end;");
        lives("71 an empty loop is the 200th", empty, 0, 200, 0, 0, 0, 0, 0);
        SlowWorlds full = with(near(2, 0), loop + "loop 1;stop;end;");
        lives("71 one with a STEP is", full, 0, 200, 0, 0, 0, 0, 1);
        SlowWorlds held = with(near(2, 0), loop + "when week=0;stop;end;");
        lives("71 a when that holds", held, 0, 200, 0, 0, 0, 0, 1);
        SlowWorlds not = with(near(2, 0), loop + "when week=1;stop;end;");
        lives("71 a when that does not", not, 0, 200, 0, 0, 0, 0, 0);
        SlowWorlds then = with(near(2, 0), loop + "when week=1;stop;end;stop;");
        lives("71 a STEP behind it", then, 0, 200, 0, 0, 0, 0, 1);
        SlowWorlds stop = with(near(2, 0), loop + "stop;week 1;");
        lives("71 stop is the 200th", stop, 0, 200, 0, 0, 0, 0, 0);
        SlowWorlds round = with(near(2, 0), "loop 2;wear b 1;" + "loop 98;wear a 1;end;end;");
        // 1 and 2 times (1 and 1 and 98): 201.
        lives("71 the last round", round, 0, 200, 0, 0, 0, 0, 1);
        SlowWorlds exact = with(near(2, 0), "loop 2;" + "loop 98;wear a 1;end;end;stop;");
        // 1 and 2 times 99, and stop: 200.
        lives("71 the last round", exact, 0, 200, 0, 0, 0, 0, 0);
    }

    /** 72: of live() latest with STATUS 0. */
    private static void livedOfTheLatest() {
        SlowWorlds x = with(near(2, 0), "week 3;order a;chance 16;");
        CHECK.refused("72 none yet", x.lived(0), x, 6);
        CHECK.refused("71 refused", x.live(-1), x, 1);
        CHECK.refused("72 none yet", x.lived(4), x, 6);
        lives("71 live", x, 0, 3, 0, 3, 2, 1, 0);
        CHECK.refused("72 5", x.lived(5), x, 1);
        CHECK.refused("72 -1", x.lived(-1), x, 1);
        CHECK.refused("71 refused", x.live(10000), x, 1);
        livedIs("72 a refused one does not count", x, 0, 3, 2, 1, 0);
        x.pass(1);
        x.order(1);
        livedIs("72 nor do other calls", x, 0, 3, 2, 1, 0);
        CHECK.fine("73 mean", x.mean(0, 2), x);
        livedIs("72 nor does mean()", x, 0, 3, 2, 1, 0);
        Check.sky(x, near(1, 0));
        CHECK.refused("71 no YEARS", x.live(0), x, 6);
        livedIs("72 nor does sky()", x, 0, 3, 2, 1, 0);
        Check.years(x, "stop;");
        lives("71 the latest", x, 0, 1, 0, 0, 0, 0, 0);
    }

    /** 73: so many seeds (1 to 10) from one on (1: the last above 9,999, too; 6: no YEARS). */
    private static void meansOfSeeds() {
        SlowWorlds x = with(near(6, 0), "chance 5;");
        for (int seed : new int[] {0, 1, 4000, 9990}) {
            for (int many = 1; many <= 10; many++) {
                long sum = 0;
                for (int s = seed; s < seed + many; s++) {
                    for (int draw : drawn(s, 6)) {
                        sum += draw < 5 ? 1 : 0;
                    }
                }
                CHECK.fine("73 of " + many, x.mean(seed, many), x);
                CHECK.same("73 the mean of " + many + " from " + seed, x.top() * many, sum * x.bottom());
            }
        }
        for (int many = 1; many <= 10; many++) {
            CHECK.fine("73 the last is 9,999", x.mean(10000 - many, many), x);
            CHECK.refused("73 the last is 10,000", x.mean(10001 - many, many), x, 1);
        }
        CHECK.refused("73 0", x.mean(0, 0), x, 1);
        CHECK.refused("73 11", x.mean(0, 11), x, 1);
        CHECK.refused("73 -1", x.mean(-1, 2), x, 1);
        SlowWorlds none = Check.under(near(2, 1));
        CHECK.refused("73 no YEARS", none.mean(0, 1), none, 6);
        SlowWorlds empty = with(near(2, 1), "");
        CHECK.fine("73 YEARS of no STEPS", empty.mean(0, 7), empty);
        CHECK.same("73 one of them", empty.top() * 10 + empty.bottom(), 11);
        SlowWorlds old = with(near(2, 0), "week 1;");
        CHECK.fine("73 none", old.mean(0, 7), old);
        CHECK.same("73 0 by 1", old.top() * 10 + old.bottom(), 1);
    }

    /** 73: all stays as it is, for each seed anew. */
    private static void meanLeavesAll() {
        SlowWorlds x = with(near(2, 1), "week 99;order a;wear a 1;wear b 1;");
        x.pass(3);
        x.order(1);
        CHECK.fine("73 mean", x.mean(0, 10), x);
        CHECK.same("73 both each time", x.top() * 10 + x.bottom(), 21);
        CHECK.fine("73 WEEK", x.told(3), x, 3);
        CHECK.fine("73 ORDERS", x.told(4), x, 1);
        CHECK.fine("73 fashions", x.told(5), x, 2);
        CHECK.refused("73 no WEEK more", x.wore(0, 4), x, 1);
        CHECK.refused("73 no live()", x.lived(0), x, 6);
        CHECK.fine("39 the next ORDER", x.order(0), x, 1);
        CHECK.fine("40 it", x.given(1, 1), x, 3);
        CHECK.fine("71 the YEARS are there still", x.live(0), x, 4);
        CHECK.fine("71 WEEK", x.told(3), x, 102);
    }

    /** 74, 75: at most 3; how many there are, how many are left; 6: none. */
    private static void threeMarks() {
        SlowWorlds x = Check.under(near(1, 0));
        CHECK.refused("75 none", x.back(), x, 6);
        for (int round = 0; round < 2; round++) {
            for (int mark = 1; mark <= 3; mark++) {
                CHECK.fine("74 a MARK more", x.mark(), x, mark);
                x.pass(1);
            }
            CHECK.refused("74 a fourth", x.mark(), x, 4);
            for (int left = 2; left >= 0; left--) {
                CHECK.fine("75 back", x.back(), x, left);
                CHECK.fine("75 the latest first", x.told(3), x, left);
            }
            CHECK.refused("75 none left", x.back(), x, 6);
        }
        x.mark();
        x.pass(1);
        x.mark();
        x.pass(1);
        x.back();
        CHECK.fine("75 the second", x.told(3), x, 1);
        x.pass(5);
        CHECK.fine("74 another second", x.mark(), x, 2);
        x.pass(1);
        CHECK.fine("75 another second", x.back(), x, 1);
        CHECK.fine("75 another second", x.told(3), x, 6);
        CHECK.fine("75 the first", x.back(), x, 0);
        CHECK.fine("75 the first", x.told(3), x, 0);
    }

    /** MARKS: the SKY with all that became of it, the YEARS are kept as they are. */
    private static void marksKeepAll() {
        SlowWorlds x = with("rock a far 0 round 1 at 0 rank 1 price 2 swing 3 wears;rock b far 5 round 7 at 1;ice a b from 3 to 4;law sent;", "week 1;wear a 1;");
        x.pass(9);
        x.order(1);
        x.wear(1, 1);
        int worn = x.told(5);
        int heard = x.heard(0, 0);
        int sees = x.sees(0, 1, 100);
        CHECK.fine("74 mark", x.mark(), x, 1);
        x.wear(1, 0);
        x.wear(0, 0);
        x.order(0);
        x.live(5);
        x.pass(99);
        Check.years(x, "stop;");
        Check.sky(x, near(6, 63) + "law last;");
        x.order(5);
        x.sees(0, 1, 100);
        CHECK.fine("75 back", x.back(), x, 0);
        int[] due = {2, 1, 3, 9, 1, worn};
        for (int what = 0; what < 6; what++) {
            CHECK.fine("75 told " + what, x.told(what), x, due[what]);
        }
        CHECK.fine("75 FAR", x.rock(1, 0), x, 5);
        CHECK.fine("75 SWING", x.rock(0, 5), x, 3);
        CHECK.fine("75 ICE", x.ice(0, 2), x, 3);
        CHECK.fine("75 ORDER", x.given(0, 1), x, 9);
        CHECK.fine("75 ORDER", x.heard(0, 0), x, heard);
        CHECK.fine("75 SEEN", x.sees(0, 1, 100), x, sees);
        CHECK.refused("75 no second ORDER", x.given(1, 0), x, 1);
        CHECK.refused("75 no WEEK 10", x.wore(0, 10), x, 1);
        CHECK.fine("75 fashions", x.wore(0, 0), x, 1);
        CHECK.fine("75 YEARS", x.live(0), x, 2);
        CHECK.fine("75 NAMES", Check.years(x, "order b;"), x, 1);
        // No YEARS are kept as none.
        SlowWorlds none = Check.under(near(1, 0));
        none.mark();
        Check.years(none, "stop;");
        CHECK.fine("71 there are some", none.live(0), none, 1);
        none.back();
        CHECK.refused("75 there are none", none.live(0), none, 6);
        SlowWorlds empty = new SlowWorlds();
        empty.mark();
        Check.sky(empty, near(3, 7));
        CHECK.fine("75 to no ROCKS", empty.back(), empty, 0);
        CHECK.fine("75 to no ROCKS", empty.told(0), empty, 0);
        CHECK.fine("75 to no ROCKS", empty.told(5), empty, 0);
    }

    /** TRAYS, the tape, the FRACTION, what fault() and lived() tell are no part of a SKY. */
    private static void marksKeepNoMore() {
        SlowWorlds x = with("rock a far 0 round 1 at 0 price 3;", "week 2;");
        x.mark();
        x.tray(0, 0, 1);
        x.write(0, 0, 7);
        x.meanPrice(0, 0, 0);
        x.live(0);
        Check.years(x, "week 0;");
        x.feed(0x20202020, 0x20202020, 0x20202020, 0x20202020, 0x20202020);
        CHECK.fine("75 back", x.back(), x, 0);
        CHECK.fine("75 TRAYS stay", x.read(0, 0), x, 7);
        CHECK.same("75 the FRACTION stays", x.top(), 3);
        CHECK.fine("75 what was lived stays", x.lived(1), x, 2);
        CHECK.same("75 the FAULT stays", x.fault(0), 4);
        CHECK.same("75 its place stays", x.fault(1), 5);
        CHECK.same("75 the tape stays", x.feed(0x20202020, 0x20202020, 0x20202020, 0x20202020, 0x20202020), 40);
    }
}
