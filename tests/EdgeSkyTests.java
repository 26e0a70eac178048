/** Promises 16 to 27: where each is, how far, when LIGHT and SHIPS arrive, what is SEEN; each sentence that names an edge. */
public final class EdgeSkyTests {
    private static final Check CHECK = new Check();

    /** All stand still; see lightsOfStanding(). */
    private static final String STANDING = "rock a far 20 round 1 at 0;rock b far 20 round 1 at 6;rock c far 0 round 1 at 3;"
            + "rock d far 20 round 1 at 0;rock e far 5 round 1 at 1;rock f far 20 round 1 at 7;";

    /** b goes by one DIRECTION a WEEK, c by one in two WEEKS; a-b 6, a-c 12 always, b-c 6 to 12. */
    private static final String MOVING = "rock a far 0 round 9 at 3;rock b far 6 round 12 at 11;rock c far 12 round 24 at 0;";

    /** b is at 0 in even WEEKS (LIGHT 1 from a), at 6 in odd ones (20); c is 20 from both. */
    private static final String JUMPING = "rock a far 20 round 1 at 0;rock b far 20 round 2 at 0;rock c far 0 round 1 at 0;";

    private static final String NEAR = "rock a far 1 round 1 at 0;rock b far 1 round 1 at 0;";

    public static void main(String[] args) {
        directionsWrapRound();
        directionsOfAllRounds();
        lightsOfStanding();
        lightOfTwoWeeks();
        iceOfEachWeek();
        iceOfSeveral();
        arrivesAheadOfAndBehindIce();
        arrivesWhereItIsThen();
        arrivesBehindWeek400();
        ships();
        seesTheLatest();
        seesNothingAheadOfTheFirst();
        seesPastIce();
        seesWhatWasSentLater();
        nearestOfSeveral();
        nearestOfAWeek();
        meetingsOfBothEnds();
        spans();
        staleness();
        blindness();
        closestOfAll();
        CHECK.end();
    }

    /** 16: AT, and 12 times the WEEK by its ROUND, rounded down, by twelve what is left. */
    private static void directionsWrapRound() {
        SlowWorlds x = Check.under("rock a far 1 round 12 at 11;rock b far 1 round 99 at 0;rock c far 1 round 1 at 5;rock d far 1 round 5 at 0;");
        CHECK.fine("16 AT", x.direction(0, 0), x, 11);
        CHECK.fine("16 wraps", x.direction(0, 1), x, 0);
        CHECK.fine("16 wraps again", x.direction(0, 13), x, 0);
        CHECK.fine("16 ahead of the wrap", x.direction(0, 12), x, 11);
        CHECK.fine("16 8 by 99: not yet", x.direction(1, 8), x, 0);
        CHECK.fine("16 108 by 99", x.direction(1, 9), x, 1);
        CHECK.fine("16 1176 by 99", x.direction(1, 98), x, 11);
        CHECK.fine("16 a whole ROUND", x.direction(1, 99), x, 0);
        CHECK.fine("16 6000 by 99: 60", x.direction(1, 500), x, 0);
        CHECK.fine("16 5988 by 99: 60", x.direction(1, 499), x, 0);
        CHECK.fine("16 5928 by 99: 59", x.direction(1, 494), x, 11);
        CHECK.fine("16 ROUND 1 stands", x.direction(2, 1), x, 5);
        CHECK.fine("16 ROUND 1 stands", x.direction(2, 500), x, 5);
        int[] due = {0, 2, 4, 7, 9, 0};
        for (int week = 0; week < due.length; week++) {
            CHECK.fine("16 ROUND 5", x.direction(3, week), x, due[week]);
        }
        CHECK.refused("16 501", x.direction(0, 501), x, 1);
        CHECK.refused("16 -1", x.direction(0, -1), x, 1);
    }

    private static void directionsOfAllRounds() {
        for (int round = 1; round <= 99; round++) {
            int at = round % 12;
            SlowWorlds x = Check.under("rock a far 1 round " + round + " at " + at + ";");
            for (int week : new int[] {0, 1, round - 1, round, round + 1, 399, 400, 401, 499, 500}) {
                CHECK.fine("16 ROUND " + round + " WEEK " + week, x.direction(0, week), x, (at + Math.floorDiv(12 * week, round)) % 12);
            }
        }
    }

    /** 17: FARTHER, and steps times the nearer one's FAR by 6, rounded down; 1 at least; of itself 0. */
    private static void lightsOfStanding() {
        SlowWorlds x = Check.under(STANDING);
        int[][] due = {
            {0, 20, 20, 1, 15, 16},
            {20, 0, 20, 20, 19, 3},
            {20, 20, 0, 20, 5, 20},
            {1, 20, 20, 0, 15, 16},
            {15, 19, 5, 15, 0, 20},
            {16, 3, 20, 16, 20, 0}};
        for (int a = 0; a < 6; a++) {
            for (int b = 0; b < 6; b++) {
                CHECK.fine("17 " + a + " to " + b, x.light(a, 0, b, 500), x, due[a][b]);
                CHECK.fine("17 " + a + " to " + b, x.light(a, 500, b, 0), x, due[a][b]);
            }
        }
        SlowWorlds y = Check.under("rock a far 0 round 1 at 0;rock b far 0 round 1 at 6;rock c far 1 round 1 at 6;rock d far 1 round 1 at 0;");
        CHECK.fine("17 both in the star: 1 at least", y.light(0, 0, 1, 0), y, 1);
        CHECK.fine("17 one FARTHER", y.light(0, 0, 2, 0), y, 1);
        CHECK.fine("17 six steps of 1 by 6", y.light(3, 0, 2, 0), y, 1);
        CHECK.refused("17 501", y.light(0, 501, 1, 0), y, 1);
        CHECK.refused("17 501", y.light(0, 0, 1, 501), y, 1);
        CHECK.refused("17 501 of itself", y.light(0, 0, 0, 501), y, 1);
    }

    private static void lightOfTwoWeeks() {
        SlowWorlds x = Check.under(MOVING);
        // b is at 11 in WEEK 0, at 0 in 1 ..; c at 0 in 0 and 1, at 6 in 12.
        for (int week = 0; week <= 12; week++) {
            int steps = Math.min((11 + week) % 12, 12 - (11 + week) % 12);
            CHECK.fine("17 b in " + week + ", c in 0", x.light(1, week, 2, 0), x, 6 + steps);
            CHECK.fine("17 c in 0, b in " + week, x.light(2, 0, 1, week), x, 6 + steps);
        }
        CHECK.fine("17 of itself, half a round on", x.light(1, 0, 1, 6), x, 0);
    }

    /** 18: from a WEEK to another one, both of them, too. */
    private static void iceOfEachWeek() {
        SlowWorlds x = Check.under(NEAR + "ice a b from 3 to 5;");
        int[] due = {0, 0, 0, 1, 1, 1, 0, 0};
        for (int week = 0; week < due.length; week++) {
            CHECK.fine("18 WEEK " + week, x.iced(0, 1, week), x, due[week]);
            CHECK.fine("18 the other way round, WEEK " + week, x.iced(1, 0, week), x, due[week]);
        }
        SlowWorlds ends = Check.under(NEAR + "ice a b from 0 to 0;ice b a from 400 to 400;");
        CHECK.fine("18 0 to 0", ends.iced(0, 1, 0), ends, 1);
        CHECK.fine("18 0 to 0", ends.iced(0, 1, 1), ends, 0);
        CHECK.fine("18 400 to 400", ends.iced(0, 1, 399), ends, 0);
        CHECK.fine("18 400 to 400", ends.iced(0, 1, 400), ends, 1);
        CHECK.refused("18 401", ends.iced(0, 1, 401), ends, 1);
        CHECK.refused("18 -1", ends.iced(0, 1, -1), ends, 1);
        CHECK.refused("18 one and itself", ends.iced(0, 0, 0), ends, 1);
    }

    private static void iceOfSeveral() {
        SlowWorlds x = Check.under(NEAR + "rock c far 1 round 1 at 0;ice a b from 1 to 2;ice b a from 2 to 4;ice a b from 6 to 6;ice c a from 5 to 5;");
        int[] ab = {0, 1, 1, 1, 1, 0, 1, 0};
        int[] ac = {0, 0, 0, 0, 0, 1, 0, 0};
        for (int week = 0; week < ab.length; week++) {
            CHECK.fine("18 a and b, WEEK " + week, x.iced(0, 1, week), x, ab[week]);
            CHECK.fine("18 a and c, WEEK " + week, x.iced(0, 2, week), x, ac[week]);
            CHECK.fine("18 b and c, WEEK " + week, x.iced(2, 1, week), x, 0);
        }
    }

    /** 19: ICE in the WEEK in which it is sent: never; later ICE does not matter. */
    private static void arrivesAheadOfAndBehindIce() {
        SlowWorlds x = Check.under("rock a far 0 round 1 at 0;rock b far 4 round 1 at 0;rock c far 4 round 1 at 0;ice a b from 3 to 5;ice b c from 0 to 400;");
        CHECK.fine("19 ahead of it, there within it", x.arrives(0, 0, 1), x, 4);
        CHECK.fine("19 the last ahead of it", x.arrives(0, 2, 1), x, 6);
        for (int week = 3; week <= 5; week++) {
            CHECK.refused("19 never", x.arrives(0, week, 1), x, 6);
            CHECK.refused("19 never the other way", x.arrives(1, week, 0), x, 6);
            CHECK.fine("19 at itself at once", x.arrives(1, week, 1), x, week);
            CHECK.fine("19 another couple", x.arrives(0, week, 2), x, week + 4);
        }
        CHECK.fine("19 the first behind it", x.arrives(0, 6, 1), x, 10);
        CHECK.refused("19 ICE to 400", x.arrives(1, 400, 2), x, 6);
        CHECK.refused("19 ICE from 0", x.arrives(2, 0, 1), x, 6);
    }

    /** 19: the first WEEK t in which LIGHT to where the other is in t is no more than t less that WEEK. */
    private static void arrivesWhereItIsThen() {
        SlowWorlds x = Check.under(JUMPING);
        CHECK.fine("19 from 0: in 1 it is at 6, in 2 at 0", x.arrives(0, 0, 1), x, 2);
        CHECK.fine("19 from 1: in 2", x.arrives(0, 1, 1), x, 2);
        CHECK.fine("19 b from 0 (at 0) to a", x.arrives(1, 0, 0), x, 1);
        CHECK.fine("19 b from 1 (at 6) to a", x.arrives(1, 1, 0), x, 21);
        CHECK.fine("19 to c", x.arrives(0, 7, 2), x, 27);
        CHECK.fine("19 from c", x.arrives(2, 7, 1), x, 27);
        SlowWorlds y = Check.under(MOVING);
        CHECK.fine("19 b from 0 to c in 12 (at 6, LIGHT 11; 12 in 10 and 11)", y.arrives(1, 0, 2), y, 12);
        CHECK.fine("19 c from 0 to b in 10 (at 9, LIGHT 9; in 9 10)", y.arrives(2, 0, 1), y, 10);
    }

    private static void arrivesBehindWeek400() {
        SlowWorlds x = Check.under(STANDING);
        CHECK.fine("19 400 sends", x.arrives(0, 400, 1), x, 420);
        CHECK.fine("19 400 sends", x.arrives(0, 400, 3), x, 401);
        CHECK.fine("19 at itself", x.arrives(0, 400, 0), x, 400);
        CHECK.refused("19 401", x.arrives(0, 401, 1), x, 1);
        CHECK.refused("19 401 at itself", x.arrives(0, 401, 0), x, 1);
        CHECK.fine("19 WEEK 0", x.arrives(0, 0, 1), x, 20);
    }

    /** 20: by ten times LIGHT, ICE or not; at itself at once. */
    private static void ships() {
        SlowWorlds x = Check.under(STANDING + "ice a b from 0 to 400;ice a d from 0 to 400;");
        CHECK.fine("20 the longest", x.ship(0, 0, 1), x, 200);
        CHECK.fine("20 the longest of 400", x.ship(0, 400, 1), x, 600);
        CHECK.fine("20 the shortest", x.ship(0, 0, 3), x, 10);
        CHECK.fine("20 the shortest of 400", x.ship(0, 400, 3), x, 410);
        CHECK.fine("20 at itself at once", x.ship(4, 400, 4), x, 400);
        CHECK.fine("20 at itself at once", x.ship(4, 0, 4), x, 0);
        CHECK.refused("20 401", x.ship(0, 401, 1), x, 1);
        CHECK.refused("20 -1", x.ship(0, -1, 1), x, 1);
        SlowWorlds y = Check.under(JUMPING);
        CHECK.fine("20 in 10 it is at 0", y.ship(0, 0, 1), y, 10);
        CHECK.fine("20 in 11 it is at 6, in 12 at 0", y.ship(0, 1, 1), y, 12);
        CHECK.fine("20 from where it was: 6", y.ship(1, 1, 0), y, 201);
        SlowWorlds z = Check.under(MOVING);
        // b from 0 (at 11): c is at 10 in 68 and 69 (1 step, LIGHT 7), at 11 in 70 (LIGHT 6).
        CHECK.fine("20 where it is then", z.ship(1, 0, 2), z, 70);
    }

    /** 21: the latest WEEK from which what was sent ARRIVES by then; itself: now. */
    private static void seesTheLatest() {
        SlowWorlds x = Check.under("rock a far 0 round 1 at 0;rock b far 4 round 1 at 0;");
        CHECK.refused("21 not yet", x.sees(0, 1, 3), x, 6);
        CHECK.fine("21 the first", x.sees(0, 1, 4), x, 0);
        CHECK.fine("21 the next", x.sees(0, 1, 5), x, 1);
        CHECK.fine("21 WEEK 400", x.sees(1, 0, 400), x, 396);
        CHECK.refused("21 401", x.sees(1, 0, 401), x, 1);
        CHECK.refused("21 401 of itself", x.sees(1, 1, 401), x, 1);
        CHECK.fine("21 itself now", x.sees(1, 1, 400), x, 400);
        CHECK.fine("21 itself now", x.sees(1, 1, 0), x, 0);
    }

    private static void seesNothingAheadOfTheFirst() {
        SlowWorlds x = Check.under(STANDING);
        for (int other = 1; other < 6; other++) {
            CHECK.refused("21 none in WEEK 0", x.sees(0, other, 0), x, 6);
        }
        CHECK.refused("21 none in WEEK 19", x.sees(0, 1, 19), x, 6);
        CHECK.fine("21 in WEEK 20", x.sees(0, 1, 20), x, 0);
        CHECK.fine("21 a WEEK on", x.sees(0, 3, 1), x, 0);
    }

    private static void seesPastIce() {
        SlowWorlds x = Check.under("rock a far 0 round 1 at 0;rock b far 2 round 1 at 0;ice a b from 5 to 9;ice a b from 0 to 1;ice a b from 300 to 400;");
        CHECK.refused("21 of 0 and 1 nothing comes", x.sees(1, 0, 3), x, 6);
        CHECK.fine("21 of 2", x.sees(1, 0, 4), x, 2);
        CHECK.fine("21 of 4", x.sees(1, 0, 6), x, 4);
        CHECK.fine("21 of 4 still", x.sees(1, 0, 7), x, 4);
        CHECK.fine("21 of 4 still", x.sees(1, 0, 11), x, 4);
        CHECK.fine("21 of 10", x.sees(1, 0, 12), x, 10);
        CHECK.fine("21 of 299", x.sees(1, 0, 301), x, 299);
        CHECK.fine("21 of 299 to the end", x.sees(1, 0, 400), x, 299);
        // Asked for out of turn on another object: what is told does not hang on what was asked ahead.
        SlowWorlds y = Check.under("rock a far 0 round 1 at 0;rock b far 2 round 1 at 0;ice a b from 5 to 9;ice a b from 0 to 1;ice a b from 300 to 400;");
        CHECK.fine("21 of 299 to the end", y.sees(1, 0, 400), y, 299);
        CHECK.fine("21 of 4 still", y.sees(1, 0, 11), y, 4);
        CHECK.refused("21 none", y.sees(1, 0, 3), y, 6);
    }

    /** 21: what was sent later may be there sooner. */
    private static void seesWhatWasSentLater() {
        SlowWorlds x = Check.under(JUMPING);
        // b sends to a: of even WEEKS it is there in the next one, of odd ones 20 later.
        int[] due = {-1, 0, 0, 2, 2, 4, 4};
        for (int week = 0; week < due.length; week++) {
            CHECK.same("21 WEEK " + week, x.sees(0, 1, week), due[week]);
        }
        // a sends to b: of 0 and 1 both are there in 2.
        CHECK.refused("21 WEEK 1", x.sees(1, 0, 1), x, 6);
        CHECK.fine("21 of 1", x.sees(1, 0, 2), x, 1);
        CHECK.fine("21 of 1 still", x.sees(1, 0, 3), x, 1);
        CHECK.fine("21 of 3", x.sees(1, 0, 4), x, 3);
    }

    /** 22: of several the first; 6: no other one. */
    private static void nearestOfSeveral() {
        SlowWorlds x = Check.under(STANDING);
        CHECK.fine("22 d", x.nearest(0, 0), x, 3);
        CHECK.fine("22 f", x.nearest(1, 400), x, 5);
        CHECK.fine("22 e", x.nearest(2, 0), x, 4);
        CHECK.fine("22 c", x.nearest(4, 0), x, 2);
        CHECK.fine("22 b", x.nearest(5, 0), x, 1);
        SlowWorlds same = Check.under(NEAR + "rock c far 1 round 1 at 0;");
        CHECK.fine("22 b and c", same.nearest(0, 0), same, 1);
        CHECK.fine("22 a and c", same.nearest(1, 0), same, 0);
        CHECK.fine("22 a and b", same.nearest(2, 0), same, 0);
        SlowWorlds alone = Check.under("rock a far 1 round 1 at 0;");
        CHECK.refused("22 no other one", alone.nearest(0, 400), alone, 6);
        CHECK.refused("22 401 first", alone.nearest(0, 401), alone, 1);
    }

    /** 22: both in that WEEK. */
    private static void nearestOfAWeek() {
        SlowWorlds x = Check.under(MOVING);
        CHECK.fine("22 b is 11 off", x.nearest(2, 12), x, 1);
        CHECK.fine("22 b is 12 off, as a is", x.nearest(2, 13), x, 0);
        CHECK.fine("22 b is 12 off, as a is", x.nearest(2, 14), x, 0);
        CHECK.fine("22 b is 11 off", x.nearest(2, 15), x, 1);
        CHECK.fine("22 a and c are both 6 off", x.nearest(1, 1), x, 0);
    }

    /** 23: from a WEEK to another one (not sooner). */
    private static void meetingsOfBothEnds() {
        SlowWorlds x = Check.under(MOVING);
        // b and c meet in 1, 2, 25, 26, .., 385, 386.
        CHECK.fine("23 neither", x.meetings(1, 2, 0, 0), x, 0);
        CHECK.fine("23 the first", x.meetings(1, 2, 0, 1), x, 1);
        CHECK.fine("23 both", x.meetings(1, 2, 1, 2), x, 2);
        CHECK.fine("23 the second alone", x.meetings(1, 2, 2, 24), x, 1);
        CHECK.fine("23 one WEEK", x.meetings(1, 2, 2, 2), x, 1);
        CHECK.fine("23 one WEEK", x.meetings(1, 2, 3, 3), x, 0);
        CHECK.fine("23 all", x.meetings(2, 1, 0, 400), x, 34);
        CHECK.fine("23 WEEK 400", x.meetings(2, 1, 400, 400), x, 0);
        CHECK.refused("23 sooner", x.meetings(1, 2, 2, 1), x, 1);
        CHECK.refused("23 401", x.meetings(1, 2, 0, 401), x, 1);
        CHECK.refused("23 401", x.meetings(1, 2, 401, 401), x, 1);
        CHECK.refused("23 -1", x.meetings(1, 2, -1, 0), x, 1);
        SlowWorlds still = Check.under(STANDING);
        CHECK.fine("23 each WEEK", still.meetings(0, 3, 0, 400), still, 401);
        CHECK.fine("23 WEEK 400", still.meetings(0, 3, 400, 400), still, 1);
        CHECK.fine("23 never", still.meetings(0, 1, 0, 400), still, 0);
    }

    /** 24: the greatest LIGHT between two ROCKS in a WEEK; 0 without two. */
    private static void spans() {
        SlowWorlds x = new SlowWorlds();
        CHECK.fine("24 without any", x.span(0), x, 0);
        Check.sky(x, "rock a far 20 round 1 at 0;");
        CHECK.fine("24 without two", x.span(500), x, 0);
        Check.sky(x, NEAR);
        CHECK.fine("24 two", x.span(500), x, 1);
        Check.sky(x, STANDING);
        CHECK.fine("24 six", x.span(500), x, 20);
        CHECK.refused("24 501", x.span(501), x, 1);
        CHECK.refused("24 -1", x.span(-1), x, 1);
        Check.sky(x, "rock b far 6 round 12 at 11;rock c far 12 round 24 at 0;");
        CHECK.fine("24 in WEEK 1", x.span(1), x, 6);
        CHECK.fine("24 in WEEK 13", x.span(13), x, 12);
        CHECK.fine("24 in WEEK 12", x.span(12), x, 11);
    }

    /** 25: how many WEEKS old. */
    private static void staleness() {
        SlowWorlds x = Check.under("rock a far 0 round 1 at 0;rock b far 4 round 1 at 0;ice a b from 10 to 400;");
        CHECK.refused("25 none", x.stale(0, 1, 3), x, 6);
        CHECK.fine("25 the first", x.stale(0, 1, 4), x, 4);
        CHECK.fine("25 the last fresh", x.stale(0, 1, 13), x, 4);
        CHECK.fine("25 older", x.stale(0, 1, 14), x, 5);
        CHECK.fine("25 of 9 in 400", x.stale(0, 1, 400), x, 391);
        CHECK.fine("25 itself", x.stale(1, 1, 400), x, 0);
        CHECK.refused("25 401", x.stale(0, 1, 401), x, 1);
    }

    /** 26: in how many WEEKS from 0 to 400 a ROCK SEES no other one. */
    private static void blindness() {
        SlowWorlds x = Check.under(STANDING);
        CHECK.fine("26 WEEK 0 alone", x.blind(0), x, 1);
        CHECK.fine("26 0 to 2", x.blind(1), x, 3);
        CHECK.fine("26 0 to 4", x.blind(2), x, 5);
        CHECK.fine("26 0 to 4", x.blind(4), x, 5);
        SlowWorlds alone = Check.under("rock a far 20 round 1 at 0;");
        CHECK.fine("26 all of them", alone.blind(0), alone, 401);
        SlowWorlds iced = Check.under(NEAR + "ice a b from 0 to 399;");
        CHECK.fine("26 all of them: what is sent in 400 comes in 401", iced.blind(0), iced, 401);
        SlowWorlds last = Check.under(NEAR + "ice a b from 0 to 398;");
        CHECK.fine("26 but 400", last.blind(0), last, 400);
        SlowWorlds gap = Check.under(NEAR + "ice a b from 1 to 400;");
        CHECK.fine("26 what is old is SEEN, too", gap.blind(0), gap, 1);
        SlowWorlds other = Check.under(NEAR + "rock c far 11 round 1 at 0;ice a b from 0 to 400;");
        CHECK.fine("26 c is SEEN from 10 on", other.blind(0), other, 10);
        CHECK.fine("26 c is SEEN from 10 on", other.blind(1), other, 10);
        SlowWorlds jumping = Check.under("rock a far 20 round 1 at 0;rock b far 20 round 2 at 6;");
        // b is at 6 in even WEEKS: what it sends in 0 comes in 20, in 1 in 2. What a sends in 0 comes in 1.
        CHECK.fine("26 what was sent later comes sooner", jumping.blind(0), jumping, 2);
        CHECK.fine("26 the other way", jumping.blind(1), jumping, 1);
    }

    /** 27: the first WEEK from one on (to 400) in which they are no more than so much LIGHT (0 to 40) apart. */
    private static void closestOfAll() {
        SlowWorlds x = Check.under(MOVING);
        CHECK.fine("27 7 in WEEK 0", x.closest(1, 2, 0, 7), x, 0);
        CHECK.fine("27 6 in WEEK 1", x.closest(2, 1, 0, 6), x, 1);
        CHECK.fine("27 from 2 on", x.closest(1, 2, 2, 6), x, 2);
        CHECK.fine("27 from 3 on", x.closest(1, 2, 3, 6), x, 25);
        CHECK.fine("27 the last time", x.closest(1, 2, 386, 6), x, 386);
        CHECK.refused("27 none to 400", x.closest(1, 2, 387, 6), x, 6);
        CHECK.refused("27 never so near", x.closest(1, 2, 0, 5), x, 6);
        CHECK.refused("27 0: LIGHT is 1 at least", x.closest(1, 2, 0, 0), x, 6);
        CHECK.fine("27 40", x.closest(1, 2, 400, 40), x, 400);
        CHECK.refused("27 41", x.closest(1, 2, 400, 41), x, 1);
        CHECK.refused("27 -1", x.closest(1, 2, 400, -1), x, 1);
        CHECK.refused("27 401", x.closest(1, 2, 401, 40), x, 1);
        SlowWorlds far = Check.under(STANDING);
        CHECK.fine("27 20", far.closest(0, 1, 400, 20), far, 400);
        CHECK.refused("27 19", far.closest(0, 1, 0, 19), far, 6);
    }
}
