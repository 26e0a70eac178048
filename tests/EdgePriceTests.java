/** Promises 57 to 62: PRICES as they are and as they are SEEN, SHIPS that gain; each sentence that names an edge. */
public final class EdgePriceTests {
    private static final Check CHECK = new Check();

    /** a 10 always; b 5 and 3 times its DIRECTION, which is the WEEK by twelve; LIGHT 6. */
    private static final String TWO = "rock a far 0 round 1 at 0 price 10;rock b far 6 round 12 at 0 price 5 swing 3;";

    public static void main(String[] args) {
        pricesOfAllSwings();
        pricesSeen();
        gains();
        gainsBehindWeek500();
        hopes();
        markets();
        means();
        CHECK.end();
    }

    /** 57: its PRICE and its SWING times its DIRECTION then (0 to 500). */
    private static void pricesOfAllSwings() {
        SlowWorlds x = Check.under("rock a far 0 round 1 at 11 price 99 swing 20;rock b far 0 round 1 at 11 price 99;rock c far 0 round 1 at 11;"
                + "rock d far 0 round 1 at 0 price 99 swing 20;rock e far 0 round 12 at 0 price 1 swing 1;rock f far 1 round 1 at 11 price 0 swing 20;");
        int[] due = {319, 99, 0, 99, 1, 220};
        for (int rock = 0; rock < 6; rock++) {
            CHECK.fine("57 ROCK " + rock, x.price(rock, 0), x, due[rock]);
        }
        for (int week = 0; week <= 13; week++) {
            CHECK.fine("57 WEEK " + week, x.price(4, week), x, 1 + week % 12);
        }
        CHECK.fine("57 500", x.price(4, 500), x, 9);
        CHECK.refused("57 501", x.price(4, 501), x, 1);
        CHECK.refused("57 -1", x.price(4, -1), x, 1);
    }

    /** 58: as it is SEEN; 6: not SEEN. */
    private static void pricesSeen() {
        SlowWorlds x = Check.under(TWO + "rock c far 6 round 1 at 0 price 7;ice a b from 3 to 9;");
        CHECK.refused("58 not yet", x.priceSeen(0, 1, 5), x, 6);
        CHECK.fine("58 of 0", x.priceSeen(0, 1, 6), x, 5);
        CHECK.fine("58 of 2", x.priceSeen(0, 1, 8), x, 11);
        CHECK.fine("58 of 2 still", x.priceSeen(0, 1, 15), x, 11);
        CHECK.fine("58 of 10", x.priceSeen(0, 1, 16), x, 35);
        CHECK.fine("58 of 394 in 400", x.priceSeen(0, 1, 400), x, 35);
        CHECK.fine("58 itself now", x.priceSeen(1, 1, 400), x, 17);
        CHECK.fine("58 itself in WEEK 0", x.priceSeen(1, 1, 0), x, 5);
        CHECK.refused("58 401", x.priceSeen(0, 1, 401), x, 1);
    }

    /** 59: the PRICE at the second when the SHIP ARRIVES, less that at the first when it goes; STATUS tells NONE from -1. */
    private static void gains() {
        SlowWorlds x = Check.under(TWO + "ice a b from 0 to 400;");
        // A SHIP takes 60 WEEKS, ICE or not: b is in the same DIRECTION then.
        for (int week = 0; week <= 12; week++) {
            CHECK.fine("59 a to b in " + week, x.gain(0, week, 1), x, 5 + 3 * (week % 12) - 10);
            CHECK.fine("59 b to a in " + week, x.gain(1, week, 0), x, 10 - 5 - 3 * (week % 12));
        }
        CHECK.refused("59 one and itself", x.gain(0, 0, 0), x, 1);
        CHECK.refused("59 401", x.gain(0, 401, 1), x, 1);
        SlowWorlds y = Check.under("rock a far 0 round 1 at 0 price 3;rock b far 1 round 1 at 0 price 2;rock c far 1 round 1 at 11 price 99 swing 20;rock d far 1 round 1 at 0;");
        CHECK.same("59 -1", y.gain(0, 0, 1), -1);
        CHECK.same("59 STATUS 0", y.status(), 0);
        CHECK.same("59 NONE", y.gain(0, 0, 4), -1);
        CHECK.same("59 STATUS 1", y.status(), 1);
        CHECK.fine("59 the most", y.gain(3, 400, 2), y, 319);
        CHECK.fine("59 the least", y.gain(2, 400, 3), y, -319);
    }

    /** A SHIP may ARRIVE behind WEEK 500: the DIRECTION goes on by the same rule. */
    private static void gainsBehindWeek500() {
        SlowWorlds x = Check.under("rock a far 0 round 1 at 0;rock b far 20 round 99 at 0 price 1 swing 1;");
        // From 400 there in 600: 7200 by 99 is 72, by twelve 0; from 399 in 599: 7188 by 99 is 72; from 393: 7116 by 99 is 71.
        CHECK.fine("20 in 600", x.ship(0, 400, 1), x, 600);
        CHECK.fine("59 in 600", x.gain(0, 400, 1), x, 1);
        CHECK.fine("59 in 599", x.gain(0, 399, 1), x, 1);
        CHECK.fine("59 in 593", x.gain(0, 393, 1), x, 12);
        CHECK.fine("59 in 500: 6000 by 99 is 60", x.gain(0, 300, 1), x, 1);
        CHECK.fine("59 in 501", x.gain(0, 301, 1), x, 1);
    }

    /** 60: the PRICE SEEN of the second in that WEEK, less that at the first; 6: not SEEN. */
    private static void hopes() {
        SlowWorlds x = Check.under(TWO + "ice a b from 3 to 9;");
        CHECK.refused("60 not SEEN yet", x.hoped(0, 5, 1), x, 6);
        CHECK.fine("60 of 0", x.hoped(0, 6, 1), x, -5);
        CHECK.fine("60 of 2", x.hoped(0, 15, 1), x, 1);
        CHECK.fine("60 of 10", x.hoped(0, 16, 1), x, 25);
        CHECK.fine("60 b sees a: 10 less 5 and 3 times 6", x.hoped(1, 6, 0), x, -13);
        CHECK.fine("60 400", x.hoped(0, 400, 1), x, 25);
        CHECK.refused("60 401", x.hoped(0, 401, 1), x, 1);
        CHECK.refused("60 one and itself", x.hoped(1, 6, 1), x, 1);
        SlowWorlds y = Check.under("rock a far 0 round 1 at 0 price 3;rock b far 1 round 1 at 0 price 2;");
        CHECK.same("60 NONE", y.hoped(0, 0, 1), -1);
        CHECK.same("60 STATUS 6", y.status(), 6);
        CHECK.same("60 -1", y.hoped(0, 1, 1), -1);
        CHECK.same("60 STATUS 0", y.status(), 0);
    }

    /** 61: of several the first; 6: no other one. */
    private static void markets() {
        SlowWorlds x = Check.under("rock a far 1 round 1 at 0 price 50;rock b far 1 round 1 at 0 price 4;rock c far 1 round 1 at 0 price 7;rock d far 1 round 1 at 0 price 7;");
        CHECK.fine("61 below 0, too: c", x.market(0, 0), x, 2);
        CHECK.fine("61 a", x.market(1, 0), x, 0);
        CHECK.fine("61 a", x.market(3, 400), x, 0);
        CHECK.refused("61 401", x.market(3, 401), x, 1);
        SlowWorlds same = Check.under("rock a far 1 round 1 at 0;rock b far 1 round 1 at 0;rock c far 1 round 1 at 0;");
        CHECK.fine("61 all gain nothing: the first other one", same.market(0, 0), same, 1);
        CHECK.fine("61 all gain nothing: the first other one", same.market(2, 0), same, 0);
        SlowWorlds alone = Check.under("rock a far 1 round 1 at 0;");
        CHECK.refused("61 no other one", alone.market(0, 400), alone, 6);
        // By the WEEK in which it is there: b is at 0 then and at 11 now.
        SlowWorlds then = Check.under("rock a far 0 round 1 at 0;rock b far 1 round 12 at 11 price 0 swing 9;rock c far 2 round 1 at 0 price 20;");
        CHECK.fine("61 b is at 9 in 10: 81", then.market(0, 0), then, 1);
        CHECK.fine("61 b is at 1 in 14: 9, c 20", then.market(0, 4), then, 2);
    }

    /** 62: from a WEEK to another one (0 to 500, not sooner). */
    private static void means() {
        SlowWorlds x = Check.under(TWO);
        mean("62 one WEEK", x, 1, 7, 7, 26, 1);
        mean("62 two WEEKS", x, 1, 0, 1, 13, 2);
        mean("62 a whole ROUND", x, 1, 0, 11, 43, 2);
        // 41 ROUNDS of 258, and WEEKS 492 to 500: 9 times 5 and 3 times 36.
        mean("62 0 to 500", x, 1, 0, 500, 41 * 258 + 153, 501);
        mean("62 500 to 500: DIRECTION 8", x, 1, 500, 500, 29, 1);
        mean("62 without a SWING", x, 0, 0, 500, 10, 1);
        CHECK.refused("62 sooner", x.meanPrice(1, 1, 0), x, 1);
        CHECK.refused("62 501", x.meanPrice(1, 0, 501), x, 1);
        CHECK.refused("62 501", x.meanPrice(1, 501, 501), x, 1);
        CHECK.refused("62 -1", x.meanPrice(1, -1, 0), x, 1);
        CHECK.same("62 the FRACTION stays", x.top() * 100 + x.bottom(), 1001);
    }

    private static void mean(String what, SlowWorlds x, int rock, int from, int to, long sum, long many) {
        CHECK.fine(what, x.meanPrice(rock, from, to), x);
        CHECK.same(what, x.top() * many, x.bottom() * sum);
        CHECK.same(what + ", without a common divisor", gcd(x.top(), x.bottom()), 1);
        CHECK.isTrue(what + ", the bottom above 0", x.bottom() > 0);
    }

    private static long gcd(long a, long b) {
        return b == 0 ? a : gcd(b, a % b);
    }
}
