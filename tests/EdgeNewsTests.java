/** Promises 28 to 38: who KNOWS NEWS when, by whom, and who was too early; each sentence that names an edge. */
public final class EdgeNewsTests {
    private static final Check CHECK = new Check();

    /** LIGHT a-b 2, a-c 5, b-c 5; a and c are iced to 9, b and c from 20 on. */
    private static final String STILL = "rock a far 0 round 1 at 0;rock b far 2 round 1 at 0;rock c far 5 round 1 at 6;"
            + "ice a c from 0 to 9;ice c b from 20 to 400;";

    /** In a row: p-q 3, q-r 2, p-r 5. */
    private static final String ROW = "rock p far 5 round 1 at 0;rock q far 2 round 1 at 0;rock r far 0 round 1 at 0;";

    private static final String ICED = "rock a far 0 round 1 at 0;rock b far 3 round 1 at 0;rock c far 3 round 1 at 0;"
            + "ice a b from 0 to 400;ice a c from 0 to 400;";

    public static void main(String[] args) {
        atOnceAtItself();
        toldOnByWeek400();
        toldOnceOnly();
        tellersOfOneWeek();
        hopsByTheTeller();
        knowingBy();
        overtakenOnlyIfEarlier();
        earlyOrJustInTime();
        earlyByTray();
        latestOfSeveral();
        centres();
        cutOffs();
        hearsBackFirst();
        remotest();
        CHECK.end();
    }

    /** 28: it KNOWS it at once. */
    private static void atOnceAtItself() {
        SlowWorlds x = Check.under(STILL);
        for (int week : new int[] {0, 1, 399, 400}) {
            for (int rock = 0; rock < 3; rock++) {
                CHECK.fine("28 at once", x.knows(rock, week, rock), x, week);
                CHECK.refused("29 itself", x.teller(rock, week, rock), x, 6);
                CHECK.fine("30 0: itself", x.hops(rock, week, rock), x, 0);
            }
        }
        CHECK.refused("28 401", x.knows(0, 401, 0), x, 1);
        CHECK.refused("28 -1", x.knows(0, -1, 0), x, 1);
        SlowWorlds alone = Check.under("rock a far 3 round 3 at 3;");
        CHECK.fine("28 one alone", alone.knows(0, 400, 0), alone, 400);
    }

    /** Block 2: a WEEK above 400 sends nothing. */
    private static void toldOnByWeek400() {
        SlowWorlds x = Check.under(STILL);
        // c to a 5 WEEKS, a to b 2; c and b are iced.
        CHECK.fine("28 a KNOWS it in 400", x.knows(2, 395, 0), x, 400);
        CHECK.fine("28 WEEK 400 sends", x.knows(2, 395, 1), x, 402);
        CHECK.fine("29 by a", x.teller(2, 395, 1), x, 0);
        CHECK.fine("30 by two", x.hops(2, 395, 1), x, 2);
        CHECK.fine("28 a KNOWS it in 401", x.knows(2, 396, 0), x, 401);
        CHECK.refused("28 WEEK 401 sends nothing", x.knows(2, 396, 1), x, 6);
        CHECK.refused("29 never", x.teller(2, 396, 1), x, 6);
        CHECK.refused("30 never", x.hops(2, 396, 1), x, 6);
        CHECK.fine("28 of WEEK 400", x.knows(2, 400, 0), x, 405);
        CHECK.refused("28 of WEEK 400", x.knows(2, 400, 1), x, 6);
    }

    /** Block 2: in the WEEK in which it first KNOWS it, and then no more. */
    private static void toldOnceOnly() {
        SlowWorlds x = Check.under(ICED);
        // a is iced for good; b and c tell each other.
        CHECK.refused("28 never", x.knows(0, 0, 1), x, 6);
        CHECK.fine("28 b to c", x.knows(1, 0, 2), x, 1);
        SlowWorlds y = Check.under("rock a far 0 round 1 at 0;rock b far 3 round 1 at 0;ice a b from 5 to 5;");
        CHECK.refused("28 ICE in that WEEK alone: it is not sent again", y.knows(0, 5, 1), y, 6);
        CHECK.fine("28 a WEEK ahead", y.knows(0, 4, 1), y, 7);
        CHECK.fine("28 a WEEK later", y.knows(0, 6, 1), y, 9);
        // b hears it from a in 2, when b and c are iced; c's own way from a is iced in 0.
        SlowWorlds z = Check.under("rock a far 0 round 1 at 0;rock b far 2 round 1 at 0;rock c far 4 round 1 at 0;ice a c from 0 to 0;ice b c from 2 to 2;");
        CHECK.refused("28 b sends it in 2 alone", z.knows(0, 0, 2), z, 6);
        CHECK.fine("28 a WEEK later", z.knows(0, 1, 2), z, 5);
    }

    /** 29: of several of one WEEK the first. */
    private static void tellersOfOneWeek() {
        SlowWorlds x = Check.under(ROW);
        // From r: q in 2; p straight in 5, by q in 5.
        CHECK.fine("28 in 5", x.knows(2, 0, 0), x, 5);
        CHECK.fine("29 q, which is numbered ahead of r", x.teller(2, 0, 0), x, 1);
        // From p: q in 3; r straight in 5, by q in 5.
        CHECK.fine("29 p, which is numbered ahead of q", x.teller(0, 0, 2), x, 0);
        CHECK.fine("29 straight", x.teller(2, 0, 1), x, 2);
        SlowWorlds y = Check.under("rock s far 3 round 1 at 0;rock a far 0 round 1 at 0;rock b far 0 round 1 at 0;rock c far 0 round 1 at 0;ice s a from 0 to 400;");
        // From a: b and c in 1, s by both in 4.
        CHECK.fine("28 by b and c", y.knows(1, 0, 0), y, 4);
        CHECK.fine("29 b", y.teller(1, 0, 0), y, 2);
        SlowWorlds z = Check.under("rock s far 3 round 1 at 0;rock b far 0 round 1 at 0;rock c far 0 round 1 at 0;rock a far 0 round 1 at 0;ice s a from 0 to 400;ice s b from 1 to 1;");
        CHECK.fine("29 c, as b is iced then", z.teller(3, 0, 0), z, 2);
    }

    /** 30: by how many it came. */
    private static void hopsByTheTeller() {
        SlowWorlds x = Check.under(ROW);
        CHECK.fine("30 by q, the TELLER", x.hops(2, 0, 0), x, 2);
        CHECK.fine("30 straight", x.hops(0, 0, 2), x, 1);
        // In a row of six, each 1 from the next; all other couples that matter are iced.
        SlowWorlds y = Check.under("rock a far 1 round 1 at 0;rock b far 2 round 1 at 0;rock c far 3 round 1 at 0;rock d far 4 round 1 at 0;"
                + "rock e far 5 round 1 at 0;rock f far 6 round 1 at 0;ice a c from 0 to 0;ice a d from 0 to 0;ice a e from 0 to 0;"
                + "ice a f from 0 to 0;ice b d from 1 to 1;ice b e from 1 to 1;ice b f from 1 to 1;ice c e from 2 to 2;");
        int[] weeks = {0, 1, 2, 3, 4, 5};
        // f by c straight in 5 (c is ahead of d and e): 3 hops.
        int[] hops = {0, 1, 2, 3, 4, 3};
        for (int rock = 0; rock < 6; rock++) {
            CHECK.fine("28 in a row", y.knows(0, 0, rock), y, weeks[rock]);
            CHECK.fine("30 in a row", y.hops(0, 0, rock), y, hops[rock]);
        }
    }

    /** 31: by another WEEK (0 to 500). */
    private static void knowingBy() {
        SlowWorlds x = Check.under(STILL);
        // From a in 3: b in 5, c in 10 by b.
        int[] by = {0, 2, 3, 4, 5, 9, 10, 500};
        int[] due = {0, 0, 1, 1, 3, 3, 7, 7};
        for (int i = 0; i < by.length; i++) {
            CHECK.fine("31 by " + by[i], x.knowing(0, 3, by[i]), x, due[i]);
        }
        CHECK.refused("31 501", x.knowing(0, 3, 501), x, 1);
        CHECK.refused("31 -1", x.knowing(0, 3, -1), x, 1);
        CHECK.fine("31 who never does is not in it", x.knowing(2, 396, 500), x, 5);
        CHECK.fine("31 behind 400", x.knowing(2, 396, 400), x, 4);
        CHECK.fine("31 behind 400", x.knowing(2, 396, 401), x, 5);
    }

    /** 32: earlier told on than by LIGHT straight from there. */
    private static void overtakenOnlyIfEarlier() {
        SlowWorlds x = Check.under(ROW);
        CHECK.fine("32 told on in the same WEEK is not earlier", x.overtaken(2, 0), x, 0);
        CHECK.fine("32 told on in the same WEEK is not earlier", x.overtaken(0, 0), x, 0);
        SlowWorlds iced = Check.under(STILL);
        CHECK.fine("32 straight never", iced.overtaken(0, 0), iced, 4);
        CHECK.fine("32 straight never, told on never", iced.overtaken(2, 396), iced, 0);
        CHECK.fine("32 straight never, told on in 400", iced.overtaken(2, 395), iced, 2);
        // 2 steps of 5 by 6 are 1, 4 steps 3: a-b 1, b-c 1, a-c 3.
        SlowWorlds y = Check.under("rock a far 5 round 1 at 0;rock b far 5 round 1 at 2;rock c far 5 round 1 at 4;");
        CHECK.fine("19 straight", y.arrives(0, 7, 2), y, 10);
        CHECK.fine("28 told on", y.knows(0, 7, 2), y, 9);
        CHECK.fine("32 c", y.overtaken(0, 7), y, 4);
        CHECK.fine("32 a", y.overtaken(2, 7), y, 1);
        CHECK.fine("32 none", y.overtaken(1, 7), y, 0);
        CHECK.fine("32 b hears it in 400", y.overtaken(0, 399), y, 4);
        CHECK.fine("32 b hears it in 401", y.overtaken(0, 400), y, 0);
        CHECK.refused("32 401", y.overtaken(0, 401), y, 1);
    }

    /** 33: before they could KNOW it. */
    private static void earlyOrJustInTime() {
        SlowWorlds x = Check.under(STILL);
        // From a in 3: b in 5, c in 10.
        x.tray(0, 1, 3);
        int[][] said = {{3, 5, 10}, {2, 5, 10}, {3, 4, 10}, {3, 5, 9}, {0, 0, 0}, {500, 500, 500}};
        int[] due = {0, 1, 2, 4, 7, 0};
        for (int i = 0; i < said.length; i++) {
            for (int rock = 0; rock < 3; rock++) {
                x.write(0, rock, said[i][rock]);
            }
            CHECK.fine("33 row " + i, x.early(0, 3, 0), x, due[i]);
        }
        CHECK.fine("33 who never KNOWS it", x.early(2, 396, 0), x, 2);
    }

    /** 33: a TRAY of one WEEK (0 to 500) for each ROCK; 1, 2, 3, 5, asked in this order. */
    private static void earlyByTray() {
        SlowWorlds x = Check.under(STILL);
        CHECK.refused("33 no such ROCK, ahead of 2", x.early(3, 0, 0), x, 1);
        CHECK.refused("33 no such WEEK, ahead of 2", x.early(0, 401, 0), x, 1);
        CHECK.refused("33 no such TRAY", x.early(0, 0, 4), x, 1);
        CHECK.refused("33 MISSING", x.early(0, 0, 0), x, 2);
        x.tray(0, 0, 0);
        CHECK.refused("33 none at all", x.early(0, 0, 0), x, 3);
        x.tray(0, 0, 2);
        x.write(0, 0, -1);
        CHECK.refused("33 one too few, ahead of 5", x.early(0, 0, 0), x, 3);
        for (int sort = 0; sort < 4; sort++) {
            x.tray(0, sort, 3);
            CHECK.fine("33 three, of each sort", x.early(0, 0, 0), x, 6);
            for (int place = 0; place < 3; place++) {
                x.write(0, place, -1);
                CHECK.refused("33 -1", x.early(0, 0, 0), x, 5);
                x.write(0, place, 0);
            }
        }
        for (int place = 0; place < 3; place++) {
            x.write(0, place, 501);
            CHECK.refused("33 501", x.early(0, 0, 0), x, 5);
            x.write(0, place, Long.MAX_VALUE);
            CHECK.refused("33 far above", x.early(0, 0, 0), x, 5);
            x.write(0, place, (1L << 32) + 4);
            CHECK.refused("33 not cut to an int", x.early(0, 0, 0), x, 5);
            x.write(0, place, 500);
            CHECK.fine("33 500", x.early(0, 0, 0), x, place == 0 ? 6 : place == 1 ? 4 : 0);
        }
        x.tray(1, 0, 3);
        x.write(1, 0, 128);
        CHECK.refused("33 128 cut to 8 bits is below 0", x.early(0, 0, 1), x, 5);
        x.write(1, 0, 127);
        CHECK.fine("33 127", x.early(0, 0, 1), x, 6);
        SlowWorlds none = new SlowWorlds();
        none.tray(0, 0, 0);
        CHECK.refused("33 no ROCK at all", none.early(0, 0, 0), none, 1);
    }

    /** 34: of several the first; 6: one never does. */
    private static void latestOfSeveral() {
        SlowWorlds x = Check.under(ROW);
        CHECK.fine("34 p", x.latest(2, 400), x, 0);
        CHECK.fine("34 r", x.latest(0, 0), x, 2);
        CHECK.fine("34 p: 3, r: 2", x.latest(1, 0), x, 0);
        SlowWorlds same = Check.under("rock a far 1 round 1 at 0;rock b far 1 round 1 at 0;rock c far 1 round 1 at 0;");
        CHECK.fine("34 b and c", same.latest(0, 0), same, 1);
        CHECK.fine("34 a and c", same.latest(1, 0), same, 0);
        CHECK.fine("34 a and b", same.latest(2, 0), same, 0);
        SlowWorlds alone = Check.under("rock a far 1 round 1 at 0;");
        CHECK.fine("34 itself", alone.latest(0, 400), alone, 0);
        SlowWorlds iced = Check.under(ICED);
        CHECK.refused("34 one never does", iced.latest(1, 0), iced, 6);
        CHECK.refused("34 two never do", iced.latest(0, 0), iced, 6);
        CHECK.refused("34 401", iced.latest(0, 401), iced, 1);
    }

    /** 35: from which NEWS is KNOWN by all the earliest, of several the first; 6: from none. */
    private static void centres() {
        SlowWorlds x = Check.under(ROW);
        CHECK.fine("35 q: by 3", x.centre(0), x, 1);
        CHECK.fine("35 q: by 403", x.centre(400), x, 1);
        CHECK.refused("35 401", x.centre(401), x, 1);
        SlowWorlds same = Check.under("rock a far 1 round 1 at 0;rock b far 1 round 1 at 0;rock c far 1 round 1 at 0;");
        CHECK.fine("35 of several the first", same.centre(0), same, 0);
        SlowWorlds iced = Check.under(ICED);
        CHECK.refused("35 from none", iced.centre(0), iced, 6);
        SlowWorlds alone = Check.under("rock a far 1 round 1 at 0;");
        CHECK.fine("35 one alone", alone.centre(0), alone, 0);
        SlowWorlds none = new SlowWorlds();
        CHECK.refused("35 no ROCKS", none.centre(0), none, 6);
        SlowWorlds some = Check.under("rock a far 0 round 1 at 0;rock b far 1 round 1 at 0;rock c far 9 round 1 at 0;ice a b from 0 to 0;ice a c from 0 to 0;");
        // From a: none hears. From b: c in 8, which tells a in 17. From c: b in 8, which tells a in 9.
        CHECK.fine("35 c: by 9", some.centre(0), some, 2);
    }

    /** 36: the set that never KNOWS. */
    private static void cutOffs() {
        SlowWorlds x = Check.under(ICED);
        CHECK.fine("36 b and c", x.cutOff(0, 0), x, 6);
        CHECK.fine("36 a", x.cutOff(1, 400), x, 1);
        SlowWorlds alone = Check.under("rock a far 1 round 1 at 0;");
        CHECK.fine("36 none", alone.cutOff(0, 400), alone, 0);
        SlowWorlds still = Check.under(STILL);
        CHECK.fine("36 none by 400", still.cutOff(2, 395), still, 0);
        CHECK.fine("36 b by 401", still.cutOff(2, 396), still, 2);
        CHECK.refused("36 401", still.cutOff(2, 401), still, 1);
    }

    /** 37: the first WEEK in which what another one sent on ARRIVES there; 6: never. */
    private static void hearsBackFirst() {
        SlowWorlds x = Check.under(ROW);
        CHECK.fine("37 by q", x.hearsBack(2, 0), x, 4);
        CHECK.fine("37 by q", x.hearsBack(0, 0), x, 6);
        CHECK.fine("37 by r", x.hearsBack(1, 0), x, 4);
        SlowWorlds still = Check.under(STILL);
        CHECK.fine("37 a sends on in 400", still.hearsBack(2, 395), still, 405);
        CHECK.refused("37 a sends nothing in 401", still.hearsBack(2, 396), still, 6);
        SlowWorlds alone = Check.under("rock a far 1 round 1 at 0;");
        CHECK.refused("37 no other one", alone.hearsBack(0, 0), alone, 6);
        // b's answer in 1 is iced; c hears in 9 and its answer comes in 18.
        SlowWorlds iced = Check.under("rock a far 0 round 1 at 0;rock b far 1 round 1 at 0;rock c far 9 round 1 at 0;ice a b from 1 to 1;");
        CHECK.fine("37 not by b", iced.hearsBack(0, 0), iced, 18);
        CHECK.refused("37 401", iced.hearsBack(0, 401), iced, 1);
    }

    /** 38: the sum of WEEKS, 100,000 where it never does; of several the first; 6: no ROCKS. */
    private static void remotest() {
        SlowWorlds x = Check.under(ROW);
        CHECK.fine("38 p: 0 and 3 and 5", x.remote(0), x, 0);
        CHECK.fine("38 p in 400: 400, 403, 405", x.remote(400), x, 0);
        SlowWorlds iced = Check.under(ICED);
        // a never hears of two, b and c of one each.
        CHECK.fine("38 a", iced.remote(0), iced, 0);
        SlowWorlds last = Check.under("rock b far 3 round 1 at 0;rock c far 3 round 1 at 0;rock a far 0 round 1 at 0;ice a b from 0 to 400;ice a c from 0 to 400;");
        CHECK.fine("38 a, numbered last", last.remote(0), last, 2);
        SlowWorlds same = Check.under("rock a far 1 round 1 at 0;rock b far 1 round 1 at 0;");
        CHECK.fine("38 of several the first", same.remote(0), same, 0);
        SlowWorlds alone = Check.under("rock a far 1 round 1 at 0;");
        CHECK.fine("38 one alone", alone.remote(0), alone, 0);
        CHECK.refused("38 401", alone.remote(401), alone, 1);
        SlowWorlds none = new SlowWorlds();
        CHECK.refused("38 no ROCKS", none.remote(0), none, 6);
    }
}
