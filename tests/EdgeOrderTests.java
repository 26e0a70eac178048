/** Promises 39 to 56: ORDERS and who RULES, ECHOES, plans, CHEAP ways; each sentence that names an edge. */
public final class EdgeOrderTests {
    private static final Check CHECK = new Check();

    /** LIGHT a-b 2, a-c 5, b-c 5; a and c are iced to 9, b and c from 20 on. */
    private static final String STILL = "rock a far 0 round 1 at 0;rock b far 2 round 1 at 0;rock c far 5 round 1 at 6;"
            + "ice a c from 0 to 9;ice c b from 20 to 400;";

    /** Three that are 1 apart, with ranks 8, 9, 9. */
    private static final String THREE = "rock a far 1 round 1 at 0 rank 8;rock b far 1 round 1 at 0 rank 9;rock c far 1 round 1 at 0 rank 9;";

    private static final String TWO = "rock a far 1 round 1 at 0;rock b far 1 round 1 at 0;";
    private static final String ICED = TWO + "ice a b from 0 to 400;";

    public static void main(String[] args) {
        twentyOrders();
        givenAndHeard();
        rulesFromTheWeekOn();
        lawFirst();
        lawLast();
        lawRank();
        lawSent();
        ruledSets();
        firstOfTwo();
        oneForAll();
        disputes();
        peaceFromAWeekOn();
        kthOfAll();
        reigns();
        idleOnes();
        echoesByWeek400();
        answeredByAWeek();
        jointOfSets();
        confirmedBySets();
        sureOfTwo();
        cheapByAWeek();
        cheapByWeek400();
        CHECK.end();
    }

    private static void passTo(SlowWorlds x, int week) {
        for (int turn = 0; turn < 9 && x.told(3) < week; turn++) {
            x.pass(Math.min(99, week - x.told(3)));
        }
    }

    /** Block 3: ORDERS, at most 20; 39: its number, 4 for one more. */
    private static void twentyOrders() {
        SlowWorlds x = Check.under(THREE);
        for (int order = 0; order < 20; order++) {
            CHECK.fine("13 so many", x.told(4), x, order);
            CHECK.refused("40 not yet", x.given(order, 0), x, 1);
            CHECK.fine("39 as they are numbered", x.order(order % 3), x, order);
            CHECK.fine("40 by whom", x.given(order, 0), x, order % 3);
        }
        CHECK.refused("39 a 21st", x.order(0), x, 4);
        CHECK.refused("39 no such ROCK first", x.order(3), x, 1);
        CHECK.fine("13 twenty", x.told(4), x, 20);
        CHECK.refused("40 no 21st", x.given(20, 0), x, 1);
        CHECK.fine("43 the last one", x.ruled(19, 500), x, 0);
        CHECK.fine("48 the last one", x.kth(0, 19), x, 19);
        CHECK.refused("48 no more", x.kth(0, 20), x, 6);
        Check.sky(x, TWO);
        CHECK.fine("39 from 0 on again", x.order(1), x, 0);
    }

    /** 40, 41: by whom, in which WEEK; the WEEK in which a ROCK first KNOWS it; 6: never. */
    private static void givenAndHeard() {
        SlowWorlds x = Check.under(STILL);
        x.order(0);
        passTo(x, 395);
        x.order(2);
        x.pass(1);
        x.order(2);
        x.pass(4);
        x.order(0);
        int[][] given = {{0, 0}, {2, 395}, {2, 396}, {0, 400}};
        int[][] heard = {{0, 2, 7}, {400, 402, 395}, {401, -1, 396}, {400, 402, 405}};
        for (int order = 0; order < 4; order++) {
            CHECK.fine("40 by whom", x.given(order, 0), x, given[order][0]);
            CHECK.fine("40 in which WEEK", x.given(order, 1), x, given[order][1]);
            for (int rock = 0; rock < 3; rock++) {
                CHECK.same("41 ORDER " + order + " at " + rock, x.heard(order, rock), heard[order][rock]);
                CHECK.same("41 STATUS", x.status(), heard[order][rock] < 0 ? 6 : 0);
            }
        }
        CHECK.refused("40 what", x.given(0, 2), x, 1);
        CHECK.refused("40 what", x.given(0, -1), x, 1);
    }

    /** 42: that it KNOWS by then (0 to 500); 6: it KNOWS none. */
    private static void rulesFromTheWeekOn() {
        SlowWorlds x = Check.under(STILL);
        CHECK.refused("42 no ORDERS", x.rules(0, 500), x, 6);
        x.pass(3);
        x.order(0);
        // b in 5, c in 10 by b.
        int[] from = {3, 5, 10};
        for (int rock = 0; rock < 3; rock++) {
            CHECK.refused("42 a WEEK ahead", x.rules(rock, from[rock] - 1), x, 6);
            CHECK.fine("42 in that WEEK", x.rules(rock, from[rock]), x, 0);
            CHECK.refused("42 in WEEK 0", x.rules(rock, 0), x, 6);
            CHECK.fine("42 in WEEK 500", x.rules(rock, 500), x, 0);
            CHECK.refused("42 501", x.rules(rock, 501), x, 1);
        }
        SlowWorlds iced = Check.under(ICED);
        iced.order(0);
        CHECK.refused("42 it never KNOWS any", iced.rules(1, 500), iced, 6);
    }

    /** ORDER 0 by a, 1 by b, both in WEEK 0; each KNOWS its own at once, the others' in 1. */
    private static SlowWorlds ordered(String law) {
        SlowWorlds x = Check.under(THREE + law);
        x.order(0);
        x.order(1);
        return x;
    }

    private static void ruleIs(String what, SlowWorlds x, int week, int a, int b, int c) {
        int[] due = {a, b, c};
        for (int rock = 0; rock < 3; rock++) {
            CHECK.same(what + ", ROCK " + rock + " in " + week, x.rules(rock, week), due[rock]);
        }
    }

    /** first: that it KNEW the earliest; of several the first given. */
    private static void lawFirst() {
        for (String law : new String[] {"", "law first;"}) {
            SlowWorlds x = ordered(law);
            ruleIs("42 first", x, 0, 0, 1, -1);
            ruleIs("42 first, both in one WEEK: the first given", x, 1, 0, 1, 0);
            x.order(2);
            ruleIs("42 first, another one of WEEK 0", x, 0, 0, 1, 2);
            ruleIs("42 first, what c KNEW at once", x, 500, 0, 1, 2);
        }
    }

    /** last: the latest; of several the first given. */
    private static void lawLast() {
        SlowWorlds x = ordered("law last;");
        ruleIs("42 last", x, 0, 0, 1, -1);
        ruleIs("42 last, both in one WEEK: the first given", x, 1, 1, 0, 0);
        x.order(2);
        ruleIs("42 last", x, 0, 0, 1, 2);
        ruleIs("42 last, two of one WEEK", x, 1, 1, 0, 0);
        x.pass(3);
        x.order(0);
        x.order(0);
        ruleIs("42 last, one more", x, 3, 3, 0, 0);
        ruleIs("42 last, one more, the first of two", x, 4, 3, 3, 3);
    }

    /** rank: that of the ROCK with the greatest RANK; of several the first given. */
    private static void lawRank() {
        SlowWorlds x = ordered("law rank;");
        ruleIs("42 rank", x, 0, 0, 1, -1);
        ruleIs("42 rank 9 ahead of 8", x, 1, 1, 1, 1);
        x.order(2);
        ruleIs("42 rank", x, 0, 0, 1, 2);
        ruleIs("42 rank 9 and 9: the first given, not the first KNOWN", x, 1, 1, 1, 1);
        x.pass(5);
        x.order(1);
        ruleIs("42 rank: a later one of the same", x, 500, 1, 1, 1);
        SlowWorlds low = Check.under(TWO + "law rank;");
        low.order(1);
        low.order(0);
        CHECK.fine("42 rank 0 and 0: the first given", low.rules(0, 1), low, 0);
        CHECK.fine("42 rank 0 and 0: its own as long as it KNOWS no other", low.rules(0, 0), low, 1);
    }

    /** sent: that which was given the earliest; of several the first given. */
    private static void lawSent() {
        SlowWorlds x = ordered("law sent;");
        ruleIs("42 sent", x, 0, 0, 1, -1);
        ruleIs("42 sent, both in one WEEK: the first given", x, 1, 0, 0, 0);
        SlowWorlds y = Check.under(STILL + "law sent;");
        y.order(0);
        y.pass(1);
        y.order(2);
        // c KNOWS a's ORDER of 0 in 7 and its own of 1 in 1.
        CHECK.fine("42 sent, its own", y.rules(2, 6), y, 1);
        CHECK.fine("42 sent, the earlier one", y.rules(2, 7), y, 0);
    }

    /** 43: the set of ROCKS at which an ORDER RULES in a WEEK (0 to 500). */
    private static void ruledSets() {
        SlowWorlds x = ordered("law rank;");
        CHECK.fine("43 in 0", x.ruled(0, 0), x, 1);
        CHECK.fine("43 in 0", x.ruled(1, 0), x, 2);
        CHECK.fine("43 in 1", x.ruled(0, 1), x, 0);
        CHECK.fine("43 in 1", x.ruled(1, 1), x, 7);
        CHECK.fine("43 in 500", x.ruled(1, 500), x, 7);
        CHECK.refused("43 501", x.ruled(1, 501), x, 1);
        CHECK.refused("43 -1", x.ruled(1, -1), x, 1);
        CHECK.refused("43 no such ORDER", x.ruled(2, 0), x, 1);
    }

    /** 44: 0 the first told, 1 the second, 2 both in one WEEK; one that it never KNOWS is later; 6: neither, ever. */
    private static void firstOfTwo() {
        SlowWorlds x = ordered("");
        int[][] due = {{0, 1, 2}, {1, 0, 2}};
        for (int rock = 0; rock < 3; rock++) {
            CHECK.fine("44 0 and 1", x.before(0, 1, rock), x, due[0][rock]);
            CHECK.fine("44 1 and 0", x.before(1, 0, rock), x, due[1][rock]);
        }
        CHECK.refused("44 one and itself", x.before(0, 0, 0), x, 1);
        SlowWorlds iced = Check.under(THREE + "ice a b from 0 to 400;ice a c from 0 to 400;");
        iced.order(0);
        iced.order(1);
        iced.order(1);
        CHECK.fine("44 never is later", iced.before(0, 1, 0), iced, 0);
        CHECK.fine("44 never is later", iced.before(1, 0, 0), iced, 1);
        CHECK.fine("44 never is later", iced.before(0, 1, 2), iced, 1);
        CHECK.refused("44 neither, ever", iced.before(1, 2, 0), iced, 6);
        CHECK.fine("44 both in one WEEK", iced.before(1, 2, 2), iced, 2);
    }

    /** 45: all that KNOW both KNOW the same one earlier (or all both in one WEEK). */
    private static void oneForAll() {
        SlowWorlds x = ordered("");
        CHECK.fine("45 a and b: each its own", x.oneForAll(0, 1), x, 0);
        CHECK.fine("45 the other way round", x.oneForAll(1, 0), x, 0);
        x.order(0);
        CHECK.fine("45 all both in one WEEK", x.oneForAll(0, 2), x, 1);
        x.pass(1);
        x.order(1);
        CHECK.fine("45 a WEEK later: b KNOWS both in 1", x.oneForAll(0, 3), x, 0);
        x.pass(1);
        x.order(1);
        CHECK.fine("45 two WEEKS later: the first for all", x.oneForAll(0, 4), x, 1);
        CHECK.refused("45 one and itself", x.oneForAll(4, 4), x, 1);
        SlowWorlds iced = Check.under(ICED);
        iced.order(0);
        iced.order(1);
        CHECK.fine("45 none KNOWS both", iced.oneForAll(0, 1), iced, 1);
        SlowWorlds some = Check.under(THREE + "ice a b from 0 to 400;ice a c from 0 to 400;");
        some.order(1);
        some.order(0);
        some.pass(3);
        some.order(2);
        // a KNOWS its own alone; b and c KNOW 0 ahead of 2.
        CHECK.fine("45 those that KNOW one alone do not count", some.oneForAll(0, 2), some, 1);
        CHECK.fine("45 none KNOWS 0 and 1", some.oneForAll(0, 1), some, 1);
        SlowWorlds one = Check.under("rock a far 1 round 1 at 0;");
        one.order(0);
        one.pass(1);
        one.order(0);
        CHECK.fine("45 one alone", one.oneForAll(0, 1), one, 1);
    }

    /** 46: how many couples. */
    private static void disputes() {
        SlowWorlds x = Check.under(TWO);
        CHECK.fine("46 no ORDERS", x.disputes(), x, 0);
        x.order(0);
        CHECK.fine("46 one", x.disputes(), x, 0);
        x.order(1);
        CHECK.fine("46 a couple", x.disputes(), x, 1);
        for (int order = 2; order < 20; order++) {
            x.order(order % 2);
        }
        CHECK.fine("46 ten times ten", x.disputes(), x, 100);
    }

    /** 47: the earliest WEEK (0 to 500) from one on in which one and the same ORDER RULES at all; 6: none, no ROCKS. */
    private static void peaceFromAWeekOn() {
        SlowWorlds x = ordered("law rank;");
        CHECK.fine("47 from 0", x.peace(0), x, 1);
        CHECK.fine("47 from 1", x.peace(1), x, 1);
        CHECK.fine("47 from 2", x.peace(2), x, 2);
        CHECK.fine("47 from 500", x.peace(500), x, 500);
        CHECK.refused("47 from 501", x.peace(501), x, 1);
        CHECK.refused("47 from -1", x.peace(-1), x, 1);
        SlowWorlds first = ordered("law first;");
        CHECK.refused("47 none", first.peace(0), first, 6);
        CHECK.refused("47 none in 500", first.peace(500), first, 6);
        SlowWorlds one = Check.under("rock a far 1 round 1 at 0;");
        CHECK.refused("47 no ORDERS", one.peace(0), one, 6);
        one.order(0);
        CHECK.fine("47 one alone, WEEK 0", one.peace(0), one, 0);
        SlowWorlds iced = Check.under(ICED);
        iced.order(0);
        CHECK.refused("47 one KNOWS none", iced.peace(0), iced, 6);
        SlowWorlds late = Check.under(TWO);
        passTo(late, 400);
        late.order(0);
        CHECK.fine("47 behind 400", late.peace(0), late, 401);
        SlowWorlds none = new SlowWorlds();
        CHECK.refused("47 no ROCKS", none.peace(500), none, 6);
        // By last peace comes and goes: 0 RULES at all in 1 and 2, then a's own in 3 at a alone, and at all in 4.
        SlowWorlds goes = Check.under(TWO + "law last;");
        goes.order(0);
        goes.pass(3);
        goes.order(0);
        CHECK.fine("47 in 1", goes.peace(0), goes, 1);
        CHECK.fine("47 in 2", goes.peace(2), goes, 2);
        CHECK.fine("47 not in 3", goes.peace(3), goes, 4);
    }

    /** 48: from 0 on, WEEK by WEEK, by numbers; 6: none such. */
    private static void kthOfAll() {
        SlowWorlds x = ordered("");
        int[][] due = {{0, 1}, {1, 0}, {0, 1}};
        for (int rock = 0; rock < 3; rock++) {
            for (int k = 0; k < 2; k++) {
                CHECK.fine("48 ROCK " + rock, x.kth(rock, k), x, due[rock][k]);
            }
            CHECK.refused("48 none such", x.kth(rock, 2), x, 6);
            CHECK.refused("48 below 0", x.kth(rock, -1), x, 1);
        }
        SlowWorlds iced = Check.under(ICED);
        iced.order(0);
        iced.order(1);
        CHECK.fine("48 its own", iced.kth(1, 0), iced, 1);
        CHECK.refused("48 what it never KNOWS is not counted", iced.kth(1, 1), iced, 6);
        SlowWorlds none = Check.under(TWO);
        CHECK.refused("48 no ORDERS", none.kth(0, 0), none, 6);
    }

    /** 49: in how many WEEKS from 0 to 500. */
    private static void reigns() {
        SlowWorlds x = Check.under(TWO + "law last;");
        x.order(0);
        CHECK.fine("49 0 to 500", x.reign(0, 0), x, 501);
        CHECK.fine("49 1 to 500", x.reign(0, 1), x, 500);
        passTo(x, 400);
        x.order(0);
        CHECK.fine("49 0 to 399", x.reign(0, 0), x, 400);
        CHECK.fine("49 400 to 500", x.reign(1, 0), x, 101);
        CHECK.fine("49 401 to 500", x.reign(1, 1), x, 100);
        SlowWorlds iced = Check.under(ICED);
        iced.order(0);
        CHECK.fine("49 never", iced.reign(0, 1), iced, 0);
    }

    /** 50: how many RULE nowhere in any WEEK from 0 to 500. */
    private static void idleOnes() {
        SlowWorlds x = Check.under(TWO);
        CHECK.fine("50 no ORDERS", x.idle(), x, 0);
        x.order(0);
        CHECK.fine("50 it RULES", x.idle(), x, 0);
        for (int order = 1; order < 20; order++) {
            x.order(0);
        }
        CHECK.fine("50 all but the first", x.idle(), x, 19);
        SlowWorlds iced = Check.under(ICED);
        iced.order(0);
        CHECK.fine("50 b never KNOWS it, a does", iced.idle(), iced, 0);
        iced.order(0);
        CHECK.fine("50 the second nowhere", iced.idle(), iced, 1);
        SlowWorlds last = Check.under(TWO + "law last;");
        last.order(0);
        last.order(0);
        passTo(last, 400);
        last.order(1);
        CHECK.fine("50 the second of WEEK 0", last.idle(), last, 1);
        SlowWorlds rank = ordered("law rank;");
        CHECK.fine("50 each RULES in WEEK 0 at least", rank.idle(), rank, 0);
        rank.pass(1);
        rank.order(0);
        CHECK.fine("50 a's of WEEK 1 nowhere", rank.idle(), rank, 1);
    }

    /** 51: answered there at once; ARRIVES is for WEEKS 0 to 400, so an answer of 401 never comes. */
    private static void echoesByWeek400() {
        SlowWorlds x = Check.under(STILL);
        CHECK.fine("51 WEEK 0", x.echo(0, 0, 1), x, 4);
        CHECK.fine("51 there in 400", x.echo(0, 398, 1), x, 402);
        CHECK.refused("51 there in 401", x.echo(0, 399, 1), x, 6);
        CHECK.refused("51 there in 402", x.echo(0, 400, 1), x, 6);
        CHECK.refused("51 401", x.echo(0, 401, 1), x, 1);
        CHECK.refused("51 ICE to 9", x.echo(0, 9, 2), x, 6);
        CHECK.fine("51 behind it", x.echo(0, 10, 2), x, 20);
        CHECK.fine("51 the answer of 19", x.echo(1, 14, 2), x, 24);
        CHECK.refused("51 the answer of 20 is iced", x.echo(1, 15, 2), x, 6);
        CHECK.refused("51 one and itself", x.echo(1, 15, 1), x, 1);
        SlowWorlds moving = Check.under("rock a far 20 round 1 at 0;rock b far 20 round 2 at 0;");
        // From 0 there in 2, back in 3 (b is at 0 in 2); from 1 there in 2 as well.
        CHECK.fine("51 from where it is then", moving.echo(0, 0, 1), moving, 3);
        CHECK.fine("51 from where it is then", moving.echo(0, 1, 1), moving, 3);
        // b from 1 (at 6) is there in 21, a's answer is at b in 22.
        CHECK.fine("51 the long way", moving.echo(1, 1, 0), moving, 22);
    }

    /** 52: the latest WEEK whose ECHO is no later than that (0 to 500); 6: none. */
    private static void answeredByAWeek() {
        SlowWorlds x = Check.under(STILL);
        CHECK.refused("52 by 0", x.answered(0, 1, 0), x, 6);
        CHECK.refused("52 by 3", x.answered(0, 1, 3), x, 6);
        CHECK.fine("52 by 4", x.answered(0, 1, 4), x, 0);
        CHECK.fine("52 by 5", x.answered(0, 1, 5), x, 1);
        CHECK.fine("52 by 401", x.answered(0, 1, 401), x, 397);
        CHECK.fine("52 by 402", x.answered(0, 1, 402), x, 398);
        CHECK.fine("52 by 403: 399 has none", x.answered(0, 1, 403), x, 398);
        CHECK.fine("52 by 500", x.answered(0, 1, 500), x, 398);
        CHECK.refused("52 501", x.answered(0, 1, 501), x, 1);
        CHECK.refused("52 -1", x.answered(0, 1, -1), x, 1);
        CHECK.fine("52 ahead of ICE", x.answered(1, 2, 24), x, 14);
        CHECK.fine("52 ahead of ICE", x.answered(1, 2, 500), x, 14);
        CHECK.refused("52 behind ICE", x.answered(0, 2, 19), x, 6);
        CHECK.fine("52 behind ICE", x.answered(0, 2, 20), x, 10);
        SlowWorlds moving = Check.under("rock a far 20 round 1 at 0;rock b far 20 round 2 at 0;");
        CHECK.refused("52 moving, by 2", moving.answered(0, 1, 2), moving, 6);
        CHECK.fine("52 the latest of two", moving.answered(0, 1, 3), moving, 1);
        CHECK.fine("52 the latest still", moving.answered(0, 1, 4), moving, 1);
        CHECK.fine("52 the next", moving.answered(0, 1, 5), moving, 3);
    }

    /** 53: the WEEK by which all of them KNOW it; 1: no ROCKS, others, too; 6: never. */
    private static void jointOfSets() {
        SlowWorlds x = Check.under(STILL);
        x.order(0);
        // 0, 2, 7.
        int[] due = {-1, 0, 2, 2, 7, 7, 7, 7};
        CHECK.refused("53 no ROCKS", x.joint(0, 0), x, 1);
        for (int set = 1; set < 8; set++) {
            CHECK.fine("53 set " + set, x.joint(0, set), x, due[set]);
        }
        for (int set : new int[] {8, 9, 15, 16, 64, -1, -8, Integer.MIN_VALUE, Integer.MAX_VALUE}) {
            CHECK.refused("53 others: " + set, x.joint(0, set), x, 1);
            CHECK.refused("54 others: " + set, x.confirmed(0, set), x, 1);
        }
        CHECK.refused("53 no such ORDER", x.joint(1, 1), x, 1);
        passTo(x, 396);
        x.order(2);
        CHECK.fine("53 without who never KNOWS it", x.joint(1, 5), x, 401);
        CHECK.refused("53 with it", x.joint(1, 7), x, 6);
        CHECK.refused("53 it alone", x.joint(1, 2), x, 6);
        SlowWorlds six = Check.under(THREE + "rock d far 1 round 1 at 0;rock e far 1 round 1 at 0;rock f far 1 round 1 at 0;");
        six.order(5);
        CHECK.fine("53 all six", six.joint(0, 63), six, 1);
        CHECK.fine("53 the sixth", six.joint(0, 32), six, 0);
        CHECK.refused("53 a seventh", six.joint(0, 64), six, 1);
    }

    /** 54: the answers of all the others of the set, by LIGHT (not told on; ICE: never). */
    private static void confirmedBySets() {
        SlowWorlds x = Check.under(STILL);
        x.order(1);
        // a in 2, back in 4; c in 5, back in 10.
        int[] due = {-1, 4, 0, 4, 10, 10, 10, 10};
        for (int set = 1; set < 8; set++) {
            CHECK.fine("54 set " + set, x.confirmed(0, set), x, due[set]);
        }
        CHECK.refused("54 no ROCKS", x.confirmed(0, 0), x, 1);
        x.pass(15);
        x.order(1);
        // c KNOWS it in 20, when its answer is iced; by a (not told on) it would come.
        CHECK.refused("54 ICE", x.confirmed(1, 4), x, 6);
        CHECK.fine("54 a alone", x.confirmed(1, 3), x, 19);
        CHECK.fine("54 who gave it alone", x.confirmed(1, 2), x, 15);
        passTo(x, 398);
        x.order(0);
        x.pass(1);
        x.order(0);
        CHECK.fine("54 b answers in 400", x.confirmed(2, 2), x, 402);
        CHECK.refused("54 b KNOWS it in 401", x.confirmed(3, 2), x, 6);
        CHECK.fine("54 who gave it alone", x.confirmed(3, 1), x, 399);
        CHECK.refused("54 with b", x.confirmed(3, 3), x, 6);
    }

    /** 55: that the second KNOWS that the first KNOWS. */
    private static void sureOfTwo() {
        SlowWorlds x = Check.under(STILL);
        x.order(1);
        // 0 at b, 2 at a, 5 at c.
        CHECK.fine("55 of who gave it", x.sure(0, 1, 0), x, 2);
        CHECK.fine("55 a to b", x.sure(0, 0, 1), x, 4);
        CHECK.refused("55 a to c in 2: ICE", x.sure(0, 0, 2), x, 6);
        CHECK.refused("55 c to a in 5: ICE", x.sure(0, 2, 0), x, 6);
        CHECK.fine("55 c to b", x.sure(0, 2, 1), x, 10);
        CHECK.refused("55 one and itself", x.sure(0, 0, 0), x, 1);
        passTo(x, 398);
        x.order(0);
        x.pass(1);
        x.order(0);
        CHECK.fine("55 in 400", x.sure(1, 1, 0), x, 402);
        CHECK.refused("55 in 401", x.sure(2, 1, 0), x, 6);
        SlowWorlds iced = Check.under(ICED);
        iced.order(0);
        CHECK.refused("55 the first never KNOWS it", iced.sure(0, 1, 0), iced, 6);
        CHECK.refused("55 the second never hears", iced.sure(0, 0, 1), iced, 6);
    }

    /** LIGHT a-b 3, b-c 3, a-c 5: straight 25 in 5 WEEKS, by b 18 in 6. */
    private static final String DEAR = "rock a far 0 round 1 at 0;rock b far 3 round 1 at 2;rock c far 5 round 1 at 0;";

    /** 56: by a WEEK (0 to 460); 6: not by then. */
    private static void cheapByAWeek() {
        SlowWorlds x = Check.under(DEAR);
        CHECK.fine("17 a-b", x.light(0, 0, 1, 0), x, 3);
        CHECK.fine("17 b-c", x.light(1, 0, 2, 0), x, 3);
        CHECK.fine("17 a-c", x.light(0, 0, 2, 0), x, 5);
        CHECK.refused("56 by 4", x.cheap(0, 0, 2, 4), x, 6);
        CHECK.fine("56 by 5", x.cheap(0, 0, 2, 5), x, 25);
        CHECK.fine("56 by 6", x.cheap(0, 0, 2, 6), x, 18);
        CHECK.fine("56 by 460", x.cheap(0, 0, 2, 460), x, 18);
        CHECK.refused("56 461", x.cheap(0, 0, 2, 461), x, 1);
        CHECK.refused("56 -1", x.cheap(0, 0, 2, -1), x, 1);
        CHECK.refused("56 by a WEEK ahead", x.cheap(0, 100, 2, 99), x, 6);
        CHECK.fine("56 itself at once", x.cheap(0, 100, 0, 100), x, 0);
        CHECK.refused("56 itself, a WEEK ahead", x.cheap(0, 100, 0, 99), x, 6);
        // To c in 4 by b (2 and 2) and by d (3 and 1), which sends later.
        SlowWorlds both = Check.under("rock a far 0 round 1 at 0;rock b far 2 round 1 at 0;rock c far 4 round 1 at 0;rock d far 3 round 1 at 0;ice b d from 0 to 400;");
        CHECK.fine("56 the least of one WEEK", both.cheap(0, 0, 2, 4), both, 8);
        SlowWorlds far = Check.under("rock a far 20 round 1 at 0;rock b far 20 round 1 at 6;");
        CHECK.fine("56 the dearest", far.cheap(0, 400, 1, 420), far, 400);
        CHECK.refused("56 not by then", far.cheap(0, 400, 1, 419), far, 6);
        SlowWorlds iced = Check.under(ICED);
        CHECK.refused("56 ICE for good", iced.cheap(0, 0, 1, 460), iced, 6);
    }

    /** 56: each sends it on in the WEEK in which it ARRIVES there; one above 400 does not. */
    private static void cheapByWeek400() {
        SlowWorlds x = Check.under(DEAR);
        CHECK.fine("56 b in 400", x.cheap(0, 397, 2, 403), x, 18);
        CHECK.fine("56 b in 401: straight alone", x.cheap(0, 398, 2, 460), x, 25);
        CHECK.fine("56 from 400", x.cheap(0, 400, 2, 460), x, 25);
        CHECK.refused("56 from 400, not by then", x.cheap(0, 400, 2, 404), x, 6);
        CHECK.refused("56 from 401", x.cheap(0, 401, 2, 460), x, 1);
        SlowWorlds iced = Check.under(DEAR + "ice a c from 0 to 400;ice b c from 3 to 3;");
        // From a in 0: b in 3, iced; back at a in 6, at b in 9, at c in 12: 4 times 9.
        CHECK.fine("56 round again", iced.cheap(0, 0, 2, 12), iced, 36);
        CHECK.refused("56 not by then", iced.cheap(0, 0, 2, 11), iced, 6);
        CHECK.fine("56 a WEEK later", iced.cheap(0, 1, 2, 7), iced, 18);
    }
}
