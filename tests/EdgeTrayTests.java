/** Promises 1 to 8: what a new object is, STATUSES, FRACTIONS, TRAYS; each sentence that names an edge. */
public final class EdgeTrayTests {
    private static final Check CHECK = new Check();
    private static final String TWO = "rock a far 0 round 1 at 0;rock b far 3 round 12 at 0 price 1 swing 2;";

    public static void main(String[] args) {
        nothingIsThere();
        statusStays();
        statusesOfEachSort();
        fractionStays();
        fractionsAreReduced();
        traysOfAllSizes();
        trayIsZeroes();
        cutToEightBits();
        cutToSixteenBits();
        cutToThirtyTwoBits();
        cutToSixtyFourBits();
        minusOneIsNoRefusal();
        poursWithinOne();
        poursBetweenTwo();
        poursOfNone();
        CHECK.end();
    }

    /** 1: A SKY of no ROCKS; no ORDERS, YEARS, MARKS; WEEK 0; TRAYS are MISSING; an empty tape; 0 by 1; STATUS 0. */
    private static void nothingIsThere() {
        SlowWorlds x = new SlowWorlds();
        CHECK.same("1 STATUS 0", x.status(), 0);
        CHECK.same("1 0 by 1", x.top(), 0);
        CHECK.same("1 0 by 1", x.bottom(), 1);
        CHECK.same("12 ahead of any", x.fault(0), -1);
        CHECK.same("12 ahead of any", x.fault(1), -1);
        CHECK.same("1 STATUS 0 still", x.status(), 0);
        for (int what = 0; what < 6; what++) {
            CHECK.fine("1 told " + what, x.told(what), x, 0);
        }
        CHECK.fine("24 without two", x.span(500), x, 0);
        CHECK.fine("46 no ORDERS", x.disputes(), x, 0);
        CHECK.fine("50 no ORDERS", x.idle(), x, 0);
        CHECK.fine("70 each one without ROCKS", x.uniform(), x, 1);
        CHECK.refused("1 no YEARS", x.live(0), x, 6);
        CHECK.refused("1 no YEARS", x.mean(0, 1), x, 6);
        CHECK.refused("1 no MARKS", x.back(), x, 6);
        for (int tray = 0; tray < 4; tray++) {
            CHECK.refused("1 MISSING", x.read(tray, 0), x, 2);
        }
        CHECK.refused("1 an empty tape", x.sky(1), x, 1);
        CHECK.same("1 an empty tape", x.feed(0, 0, 0, 0, 0), 20);
        CHECK.fine("1 no MARKS ahead of the first", x.mark(), x, 1);
        CHECK.fine("63 WEEKS go by without ROCKS", x.pass(99), x, 99);
    }

    /** 2: status(), top(), bottom(), feed(), fault() have none. */
    private static void statusStays() {
        SlowWorlds x = new SlowWorlds();
        CHECK.refused("2 MISSING", x.read(0, 0), x, 2);
        x.status();
        CHECK.same("2 by status()", x.status(), 2);
        x.top();
        CHECK.same("2 by top()", x.status(), 2);
        x.bottom();
        CHECK.same("2 by bottom()", x.status(), 2);
        for (int fed = 0; fed < 45; fed++) {
            x.feed(0x20202020, 0x20202020, 0x20202020, 0x20202020, 0x20202020);
        }
        CHECK.same("2 by feed()", x.status(), 2);
        CHECK.same("9 full", x.feed(0, 0, 0, 0, 0), -1);
        CHECK.same("2 by a feed() that is NONE", x.status(), 2);
        x.fault(0);
        x.fault(7);
        CHECK.same("2 by fault()", x.status(), 2);
        CHECK.fine("2 the latest that has one", x.told(0), x, 0);
        x.feed(0, 0, 0, 0, 0);
        CHECK.same("2 0 stays as well", x.status(), 0);
    }

    /** 2: of the latest call that has one, be it what it is. */
    private static void statusesOfEachSort() {
        SlowWorlds x = Check.under(TWO);
        CHECK.refused("2 1", x.told(6), x, 1);
        CHECK.refused("2 2", x.read(0, 0), x, 2);
        x.tray(0, 0, 0);
        CHECK.same("2 0", x.status(), 0);
        CHECK.refused("2 3", x.read(0, 0), x, 3);
        for (int mark = 0; mark < 3; mark++) {
            x.mark();
        }
        CHECK.refused("2 4", x.mark(), x, 4);
        x.tray(1, 1, 2);
        x.write(1, 1, -1);
        CHECK.refused("2 5", x.early(0, 0, 1), x, 5);
        CHECK.refused("2 6", x.live(0), x, 6);
        CHECK.refused("2 8", x.pour(0, 0, 1, 0, 0), x, 8);
        x.feed(0, 0, 0, 0, 0);
        CHECK.refused("2 9", x.sky(1), x, 9);
        CHECK.fine("2 0 again", x.told(0), x, 2);
    }

    /** 3, 4: the FRACTION told latest stays until another one is told. */
    private static void fractionStays() {
        SlowWorlds x = Check.under(TWO);
        CHECK.fine("62 1 and 3 and 5 and 7 and 9 by 5", x.meanPrice(1, 0, 4), x);
        CHECK.fine("62 1 and 3 and 5 and 7: 4", x.meanPrice(1, 0, 3), x);
        CHECK.fine("62 1 and 3 and .. 23 and 1: 145 by 13", x.meanPrice(1, 0, 12), x);
        fraction("3 told", x, 145, 13);
        CHECK.refused("62 refused", x.meanPrice(1, 5, 4), x, 1);
        CHECK.refused("73 refused", x.mean(0, 1), x, 6);
        fraction("3 stays by refused ones", x, 145, 13);
        x.mark();
        Check.sky(x, "law last;");
        fraction("3 stays by sky()", x, 145, 13);
        x.back();
        fraction("3 stays by back()", x, 145, 13);
        Check.years(x, "wear a 1;");
        fraction("3 stays by years()", x, 145, 13);
        x.live(3);
        fraction("3 stays by live()", x, 145, 13);
        CHECK.fine("73 mean", x.mean(0, 3), x);
        fraction("3 told by mean()", x, 1, 1);
    }

    /** Block 4: without a common divisor, the bottom above 0; 0 is 0 by 1. */
    private static void fractionsAreReduced() {
        SlowWorlds x = Check.under("rock a far 0 round 1 at 0 price 99;rock b far 1 round 12 at 0 price 0 swing 1;rock c far 0 round 1 at 0;"
                + "rock d far 0 round 99 at 11 price 99 swing 20;");
        x.meanPrice(0, 0, 500);
        fraction("4 501 times 99 by 501", x, 99, 1);
        x.meanPrice(1, 0, 1);
        fraction("4 1 by 2", x, 1, 2);
        x.meanPrice(1, 0, 3);
        fraction("4 6 by 4", x, 3, 2);
        x.meanPrice(1, 0, 11);
        fraction("4 66 by 12", x, 11, 2);
        x.meanPrice(1, 0, 2);
        fraction("4 3 by 3", x, 1, 1);
        x.meanPrice(2, 0, 500);
        fraction("4 0 is 0 by 1", x, 0, 1);
        x.meanPrice(1, 12, 12);
        fraction("4 0 of one WEEK", x, 0, 1);
        x.meanPrice(3, 0, 0);
        fraction("4 the greatest PRICE: 99 and 11 times 20", x, 319, 1);
        x.meanPrice(3, 0, 9);
        // DIRECTION 11 to WEEK 8, then 0 (12 times 9 by 99 is 1): 9 times 319 and 99 by 10.
        fraction("4 2970 by 10", x, 297, 1);
        x.meanPrice(3, 2, 9);
        fraction("4 2332 by 8", x, 583, 2);
    }

    private static void fraction(String what, SlowWorlds x, long top, long bottom) {
        CHECK.same(what + ", top", x.top(), top);
        CHECK.same(what + ", bottom", x.bottom(), bottom);
    }

    /** Terms: rows of 0 to 60 numbers. */
    private static void traysOfAllSizes() {
        for (int sort = 0; sort < 4; sort++) {
            for (int many = 0; many <= 60; many++) {
                SlowWorlds x = new SlowWorlds();
                CHECK.fine("5 of " + many, x.tray(sort, sort, many), x);
                if (many > 0) {
                    CHECK.fine("7 the first", x.read(sort, 0), x, 0);
                    CHECK.fine("7 the last", x.read(sort, many - 1), x, 0);
                    CHECK.fine("6 the last", x.write(sort, many - 1, 5), x);
                    CHECK.fine("7 the last", x.read(sort, many - 1), x, 5);
                }
                CHECK.refused("7 behind the last", x.read(sort, many), x, 3);
                CHECK.refused("6 behind the last", x.write(sort, many, 5), x, 3);
                CHECK.refused("7 ahead of the first", x.read(sort, -1), x, 3);
                CHECK.refused("6 ahead of the first", x.write(sort, -1, 5), x, 3);
            }
        }
    }

    /** 5: a row of so many 0s, whatever was there; a refused one leaves it. */
    private static void trayIsZeroes() {
        SlowWorlds x = new SlowWorlds();
        x.tray(2, 3, 60);
        for (int place = 0; place < 60; place++) {
            x.write(2, place, place + 1);
        }
        CHECK.refused("5 61", x.tray(2, 3, 61), x, 1);
        CHECK.refused("5 -1", x.tray(2, 3, -1), x, 1);
        CHECK.refused("5 sort 4", x.tray(2, 4, 1), x, 1);
        CHECK.fine("5 the old one stays", x.read(2, 59), x, 60);
        CHECK.fine("5 fewer", x.tray(2, 3, 2), x);
        CHECK.fine("5 0s", x.read(2, 1), x, 0);
        CHECK.fine("5 more again", x.tray(2, 0, 60), x);
        for (int place = 0; place < 60; place++) {
            CHECK.fine("5 0s", x.read(2, place), x, 0);
        }
        CHECK.refused("5 another one is MISSING still", x.read(1, 0), x, 2);
    }

    private static void cuts(int sort, long[] written, long[] due) {
        SlowWorlds x = new SlowWorlds();
        x.tray(1, sort, 3);
        for (int i = 0; i < written.length; i++) {
            CHECK.fine("6 sort " + sort, x.write(1, 1, written[i]), x);
            CHECK.fine("7 sort " + sort + " of " + written[i], x.read(1, 1), x, due[i]);
        }
        CHECK.fine("6 others stay", x.read(1, 0), x, 0);
        CHECK.fine("6 others stay", x.read(1, 2), x, 0);
    }

    private static void cutToEightBits() {
        cuts(0, new long[] {127, 128, 255, 256, -1, -128, -129, 65535, 1L << 62, Long.MAX_VALUE, Long.MIN_VALUE},
                new long[] {127, -128, -1, 0, -1, -128, 127, -1, 0, -1, 0});
    }

    private static void cutToSixteenBits() {
        cuts(1, new long[] {32767, 32768, 65535, 65536, -1, -32768, -32769, 255, Long.MAX_VALUE, Long.MIN_VALUE},
                new long[] {32767, -32768, -1, 0, -1, -32768, 32767, 255, -1, 0});
    }

    private static void cutToThirtyTwoBits() {
        cuts(2, new long[] {Integer.MAX_VALUE, 1L << 31, (1L << 32) - 1, 1L << 32, -1, Integer.MIN_VALUE, Integer.MIN_VALUE - 1L, 65536,
            Long.MAX_VALUE, Long.MIN_VALUE},
                new long[] {Integer.MAX_VALUE, Integer.MIN_VALUE, -1, 0, -1, Integer.MIN_VALUE, Integer.MAX_VALUE, 65536, -1, 0});
    }

    private static void cutToSixtyFourBits() {
        long[] all = {Long.MAX_VALUE, Long.MIN_VALUE, -1, 0, 1L << 32, 1};
        cuts(3, all, all);
    }

    /** 7: STATUS tells NONE from -1. */
    private static void minusOneIsNoRefusal() {
        SlowWorlds x = new SlowWorlds();
        x.tray(0, 3, 1);
        x.write(0, 0, -1);
        CHECK.same("7 -1", x.read(0, 0), -1);
        CHECK.same("7 STATUS 0", x.status(), 0);
        CHECK.same("7 NONE", x.read(0, 1), -1);
        CHECK.same("7 STATUS 3", x.status(), 3);
    }

    private static SlowWorlds counted(int many) {
        SlowWorlds x = new SlowWorlds();
        x.tray(0, 3, many);
        for (int place = 0; place < many; place++) {
            x.write(0, place, place + 1);
        }
        return x;
    }

    private static void holds(String what, SlowWorlds x, int tray, long... due) {
        for (int place = 0; place < due.length; place++) {
            CHECK.fine(what + ", place " + place, x.read(tray, place), x, due[place]);
        }
        CHECK.refused(what + ", no more", x.read(tray, due.length), x, 3);
    }

    /** 8: or its own place on, as they were. */
    private static void poursWithinOne() {
        SlowWorlds on = counted(6);
        CHECK.fine("8 one on", on.pour(0, 0, 0, 1, 5), on);
        holds("8 one on", on, 0, 1, 1, 2, 3, 4, 5);
        SlowWorlds back = counted(6);
        CHECK.fine("8 one back", back.pour(0, 1, 0, 0, 5), back);
        holds("8 one back", back, 0, 2, 3, 4, 5, 6, 6);
        SlowWorlds same = counted(6);
        CHECK.fine("8 where they are", same.pour(0, 0, 0, 0, 6), same);
        holds("8 where they are", same, 0, 1, 2, 3, 4, 5, 6);
        SlowWorlds some = counted(6);
        CHECK.fine("8 two by three", some.pour(0, 1, 0, 3, 3), some);
        holds("8 two by three", some, 0, 1, 2, 3, 2, 3, 4);
        CHECK.refused("8 one too many", some.pour(0, 1, 0, 4, 3), some, 3);
        CHECK.refused("8 one too many from there", some.pour(0, 4, 0, 1, 3), some, 3);
        holds("8 nothing changed", some, 0, 1, 2, 3, 2, 3, 4);
    }

    private static void poursBetweenTwo() {
        SlowWorlds x = counted(60);
        x.tray(3, 3, 60);
        CHECK.fine("8 all sixty", x.pour(0, 0, 3, 0, 60), x);
        CHECK.fine("8 the last of sixty", x.read(3, 59), x, 60);
        CHECK.refused("8 sixty-one", x.pour(0, 0, 3, 0, 61), x, 3);
        CHECK.refused("8 sixty from 1 on", x.pour(0, 1, 3, 0, 60), x, 3);
        CHECK.refused("8 sixty to 1 on", x.pour(0, 0, 3, 1, 60), x, 3);
        CHECK.fine("8 the last to the first", x.pour(0, 59, 3, 0, 1), x);
        CHECK.fine("8 the last to the first", x.read(3, 0), x, 60);
        CHECK.fine("8 the first to the last", x.pour(0, 0, 3, 59, 1), x);
        CHECK.fine("8 the first to the last", x.read(3, 59), x, 1);
        CHECK.fine("8 the source stays", x.read(0, 59), x, 60);
        x.tray(1, 2, 60);
        CHECK.refused("8 of unlike sorts", x.pour(0, 0, 1, 0, 1), x, 8);
        x.tray(1, 3, 1);
        CHECK.fine("8 of one sort, unlike lengths", x.pour(0, 7, 1, 0, 1), x);
        holds("8 of one sort", x, 1, 8);
    }

    /** 8: 0 numbers come, from and to the place behind the last one, too. */
    private static void poursOfNone() {
        SlowWorlds x = counted(4);
        x.tray(1, 3, 0);
        CHECK.fine("8 none to a TRAY of none", x.pour(0, 0, 1, 0, 0), x);
        CHECK.fine("8 none of a TRAY of none", x.pour(1, 0, 0, 0, 0), x);
        CHECK.fine("8 none from the end", x.pour(0, 4, 0, 4, 0), x);
        CHECK.refused("8 one of a TRAY of none", x.pour(1, 0, 0, 0, 1), x, 3);
        CHECK.refused("8 one to a TRAY of none", x.pour(0, 0, 1, 0, 1), x, 3);
        CHECK.refused("8 none behind the end", x.pour(0, 5, 0, 0, 0), x, 3);
        CHECK.refused("8 none to behind the end", x.pour(0, 0, 0, 5, 0), x, 3);
        holds("8 nothing changed", x, 0, 1, 2, 3, 4);
    }
}
