/** Each promise of the document, by number: ordinary calls, the edges it names, wrong numbers. Worked out by hand. */
public final class PromiseTests {
    private static final Check CHECK = new Check();

    /**
     * ROCKS with a ROUND of 1 stand still, so all can be worked out in the head.
     * LIGHT: a-b 2, a-c 5, b-c 5 (3 and 6 steps times 2 by 6). DIRECTIONS 0, 0, 6. PRICES 10, 20, 36.
     */
    private static final String STILL = "rock a far 0 round 1 at 0 price 10;"
            + "rock b far 2 round 1 at 0 rank 3 price 20 swing 2;"
            + "rock c far 5 round 1 at 6 rank 3 price 30 swing 1 wears;"
            + "ice a c from 0 to 9;ice c b from 20 to 400;";

    /** a stands in the star, b goes round by a DIRECTION a WEEK, c by one in two WEEKS. */
    private static final String MOVING = "rock a far 0 round 9 at 3;rock b far 6 round 12 at 11 price 5 swing 3;"
            + "rock c far 12 round 24 at 0 price 1;";

    private static final String ROCK = " far 1 round 1 at 0;";

    public static void main(String[] args) {
        newObject();
        fractions();
        trays();
        pours();
        tape();
        skies();
        skyFaults();
        skyFaultsOfParts();
        yearsTexts();
        yearsFaults();
        facts();
        directionsAndLight();
        arrivals();
        looks();
        nearAndFar();
        news();
        newsOfAll();
        orders();
        laws();
        rulers();
        couplesOfOrders();
        echoes();
        plans();
        cheapWays();
        prices();
        fashions();
        follows();
        living();
        livingEnds();
        means();
        marks();
        CHECK.end();
    }

    private static void newObject() {
        SlowWorlds x = new SlowWorlds();
        CHECK.same("1 status", x.status(), 0);
        CHECK.same("1 top", x.top(), 0);
        CHECK.same("1 bottom", x.bottom(), 1);
        CHECK.same("1 fault", x.fault(0), -1);
        CHECK.same("1 fault place", x.fault(1), -1);
        for (int what = 0; what < 6; what++) {
            CHECK.fine("1 told", x.told(what), x, 0);
        }
        for (int tray = 0; tray < 4; tray++) {
            CHECK.refused("1 read", x.read(tray, 0), x, 2);
        }
        CHECK.refused("1 back", x.back(), x, 6);
        CHECK.refused("1 live", x.live(0), x, 6);
        CHECK.refused("1 sky(1)", x.sky(1), x, 1);
        CHECK.same("2 status stays by status, top, bottom, fault, feed",
                x.status() + x.top() * 0 + x.bottom() * 0 + x.fault(0) * 0 + x.feed(0, 0, 0, 0, 0) * 0, 1);
        CHECK.same("2 status", x.status(), 1);
        CHECK.same("NONE", SlowWorlds.NONE, -1);
    }

    private static void fractions() {
        SlowWorlds x = Check.under("rock a far 1 round 12 at 0 price 1 swing 2;");
        // PRICES in WEEKS 0 to 3: 1, 3, 5, 7.
        CHECK.fine("62 meanPrice", x.meanPrice(0, 0, 3), x);
        CHECK.same("3 top", x.top(), 4);
        CHECK.same("4 bottom", x.bottom(), 1);
        CHECK.fine("62 meanPrice", x.meanPrice(0, 11, 12), x);
        CHECK.same("3 top, 23 and 1", x.top(), 12);
        CHECK.same("4 bottom", x.bottom(), 1);
        CHECK.fine("62 meanPrice", x.meanPrice(0, 10, 12), x);
        CHECK.same("3 top, 21, 23 and 1", x.top(), 15);
        CHECK.fine("62 meanPrice of 500 WEEKS", x.meanPrice(0, 1, 500), x);
        CHECK.same("3 top: 41 rounds of 144, 3 5 7 9 11 13 15 17", x.top(), 1496);
        CHECK.same("4 bottom", x.bottom(), 125);
        CHECK.fine("62 meanPrice of one WEEK", x.meanPrice(0, 5, 5), x);
        CHECK.same("3 top", x.top(), 11);
        CHECK.fine("62 meanPrice of 500 WEEKS", x.meanPrice(0, 1, 500), x);
        CHECK.refused("62 to ahead of from", x.meanPrice(0, 4, 3), x, 1);
        CHECK.refused("62 501", x.meanPrice(0, 4, 501), x, 1);
        CHECK.refused("62 -1", x.meanPrice(0, -1, 3), x, 1);
        CHECK.refused("62 no rock", x.meanPrice(1, 0, 3), x, 1);
        CHECK.same("3 top stays", x.top(), 1496);
        SlowWorlds none = Check.under("rock a far 1 round 12 at 0;");
        CHECK.fine("62 meanPrice of nothing", none.meanPrice(0, 0, 6), none);
        CHECK.same("3 0 by 1", none.top(), 0);
        CHECK.same("4 0 by 1", none.bottom(), 1);
    }

    private static void trays() {
        SlowWorlds x = new SlowWorlds();
        CHECK.fine("5 tray", x.tray(0, 0, 60), x);
        CHECK.fine("5 tray", x.tray(3, 3, 0), x);
        CHECK.refused("5 tray 4", x.tray(4, 0, 1), x, 1);
        CHECK.refused("5 tray -1", x.tray(-1, 0, 1), x, 1);
        CHECK.refused("5 sort 4", x.tray(0, 4, 1), x, 1);
        CHECK.refused("5 sort -1", x.tray(0, -1, 1), x, 1);
        CHECK.refused("5 61", x.tray(0, 0, 61), x, 1);
        CHECK.refused("5 -1", x.tray(0, 0, -1), x, 1);
        CHECK.fine("7 read", x.read(0, 59), x, 0);
        CHECK.fine("6 write", x.write(0, 59, 511), x);
        CHECK.fine("7 cut to 8 bits", x.read(0, 59), x, -1);
        CHECK.fine("6 write", x.write(0, 0, 384), x);
        CHECK.fine("7 cut to 8 bits", x.read(0, 0), x, -128);
        x.tray(1, 1, 2);
        CHECK.fine("6 write", x.write(1, 1, 65536L * 7 + 40000), x);
        CHECK.fine("7 cut to 16 bits", x.read(1, 1), x, 40000 - 65536);
        x.tray(2, 2, 2);
        CHECK.fine("6 write", x.write(2, 0, (5L << 32) + 3), x);
        CHECK.fine("7 cut to 32 bits", x.read(2, 0), x, 3);
        x.tray(2, 3, 2);
        CHECK.fine("5 all 0 again", x.read(2, 0), x, 0);
        CHECK.fine("6 write", x.write(2, 0, Long.MIN_VALUE), x);
        CHECK.fine("7 64 bits", x.read(2, 0), x, Long.MIN_VALUE);
        CHECK.refused("6 place 2", x.write(2, 2, 1), x, 3);
        CHECK.refused("6 place -1", x.write(2, -1, 1), x, 3);
        CHECK.refused("7 place 2", x.read(2, 2), x, 3);
        CHECK.refused("7 place -1", x.read(2, -1), x, 3);
        CHECK.refused("6 tray of none", x.write(3, 0, 1), x, 3);
        CHECK.refused("6 tray 4", x.write(4, 0, 1), x, 1);
        CHECK.refused("7 tray -1", x.read(-1, 0), x, 1);
        SlowWorlds y = new SlowWorlds();
        CHECK.refused("6 missing", y.write(0, 0, 1), y, 2);
        CHECK.refused("7 missing, ahead of the place", y.read(0, 99), y, 2);
    }

    private static void pours() {
        SlowWorlds x = new SlowWorlds();
        x.tray(0, 1, 5);
        x.tray(1, 1, 3);
        x.tray(2, 2, 3);
        for (int place = 0; place < 5; place++) {
            x.write(0, place, place + 1);
        }
        CHECK.fine("8 pour", x.pour(0, 2, 1, 0, 3), x);
        CHECK.same("8 comes", x.read(1, 0), 3);
        CHECK.same("8 comes", x.read(1, 2), 5);
        CHECK.fine("8 to itself", x.pour(0, 0, 0, 1, 4), x);
        long[] due = {1, 1, 2, 3, 4};
        for (int place = 0; place < 5; place++) {
            CHECK.same("8 as they were", x.read(0, place), due[place]);
        }
        CHECK.fine("8 none at the end", x.pour(0, 5, 1, 3, 0), x);
        CHECK.refused("8 place -1", x.pour(0, -1, 1, 0, 1), x, 1);
        CHECK.refused("8 at -1", x.pour(0, 0, 1, -1, 1), x, 1);
        CHECK.refused("8 many -1, ahead of missing", x.pour(0, 0, 3, 0, -1), x, 1);
        CHECK.refused("8 tray 4", x.pour(4, 0, 1, 0, 1), x, 1);
        CHECK.refused("8 tray -1", x.pour(0, 0, -1, 0, 1), x, 1);
        CHECK.refused("8 missing", x.pour(3, 0, 2, 0, 9), x, 2);
        CHECK.refused("8 missing", x.pour(0, 0, 3, 0, 9), x, 2);
        CHECK.refused("8 unlike, ahead of too few", x.pour(0, 0, 2, 0, 9), x, 8);
        CHECK.refused("8 too few", x.pour(0, 3, 1, 0, 3), x, 3);
        CHECK.refused("8 too few there", x.pour(0, 0, 1, 1, 3), x, 3);
        CHECK.refused("8 far too many", x.pour(0, 1, 1, 1, Integer.MAX_VALUE), x, 3);
        CHECK.refused("8 far behind", x.pour(0, Integer.MAX_VALUE, 1, 0, 1), x, 3);
        CHECK.refused("8 none behind the end", x.pour(0, 6, 1, 0, 0), x, 3);
    }

    private static void tape() {
        SlowWorlds x = new SlowWorlds();
        for (int fed = 1; fed <= 45; fed++) {
            CHECK.same("9 feed", x.feed(0x20202020, 0x20202020, 0x0a200a20, 0x20202020, 0x20202020), fed * 20);
        }
        CHECK.same("9 above 900", x.feed(1, 2, 3, 4, 5), -1);
        CHECK.same("9 above 900, again", x.feed(1, 2, 3, 4, 5), -1);
        CHECK.refused("10 901", x.sky(901), x, 1);
        CHECK.refused("10 -1", x.sky(-1), x, 1);
        CHECK.refused("11 301", x.years(301), x, 1);
        CHECK.refused("11 -1", x.years(-1), x, 1);
        CHECK.same("12 none yet", x.fault(0), -1);
        CHECK.fine("10 blanks alone", x.sky(900), x, 0);
        CHECK.same("9 the tape is empty then", x.feed(0x41424344, 0, 0, 0, 0), 20);
        CHECK.fine("10 of nothing", x.sky(0), x, 0);
        CHECK.same("9 the tape is empty then", x.feed(0x41424344, 0, 0, 0, 0), 20);
        CHECK.refused("10 a FAULT", x.sky(3), x, 9);
        CHECK.refused("10 the tape is empty then, too", x.sky(1), x, 1);
        for (int fed = 1; fed <= 15; fed++) {
            x.feed(0x20202020, 0x20202020, 0x0a200a20, 0x20202020, 0x20202020);
        }
        CHECK.fine("11 300 bytes", x.years(300), x, 0);
        CHECK.same("9 the tape is empty then", x.feed(0, 0, 0, 0, 0), 20);
    }

    private static void skies() {
        SlowWorlds x = new SlowWorlds();
        CHECK.fine("10 sky", Check.sky(x, STILL), x, 3);
        CHECK.same("12 no FAULT", x.fault(0), 0);
        CHECK.same("12 no place", x.fault(1), -1);
        CHECK.same("12 others", x.fault(2), -1);
        CHECK.same("12 others", x.fault(-1), -1);
        x.pass(3);
        x.order(0);
        Check.years(x, "week 1;");
        CHECK.refused("10 FAULT", Check.sky(x, "rock a far 1 round 1 at 0"), x, 9);
        CHECK.same("12 FAULT", x.fault(0), 2);
        CHECK.same("12 place: the end", x.fault(1), 25);
        CHECK.fine("10 the old one stays", x.told(0), x, 3);
        CHECK.fine("10 its WEEK stays", x.told(3), x, 3);
        CHECK.fine("10 its ORDERS stay", x.told(4), x, 1);
        CHECK.fine("10 its YEARS stay", x.live(0), x, 1);
        CHECK.fine("10 another sky", Check.sky(x, "\nrock  moon far 020round0099at11 wears\n;"), x, 1);
        CHECK.same("10 WEEK 0", x.told(3), 0);
        CHECK.same("10 no ORDERS", x.told(4), 0);
        CHECK.same("10 no ICE", x.told(1), 0);
        CHECK.same("10 law first without", x.told(2), 0);
        CHECK.same("10 fashions", x.told(5), 1);
        CHECK.refused("10 no YEARS", x.live(0), x, 6);
        CHECK.same("10 FAR", x.rock(0, 0), 20);
        CHECK.same("10 ROUND", x.rock(0, 1), 99);
        CHECK.same("10 AT", x.rock(0, 2), 11);
        CHECK.fine("10 six rocks", Check.sky(x, "rock a" + ROCK + "rock b" + ROCK + "rock c" + ROCK + "rock d" + ROCK
                + "rock e" + ROCK + "law sent;rock fffffggg" + ROCK), x, 6);
        CHECK.fine("10 the least numbers", Check.sky(x, "rock z far 0 round 1 at 0 rank 0 price 0 swing 0;"), x, 1);
        CHECK.fine("10 a sky without rocks", Check.sky(x, "law last;"), x, 0);
        CHECK.same("10 law", x.told(2), 1);
    }

    private static void skyFault(String text, int kind, int place) {
        SlowWorlds x = new SlowWorlds();
        CHECK.refused("10 " + text, Check.sky(x, text), x, 9);
        CHECK.same("12 kind: " + text, x.fault(0), kind);
        CHECK.same("12 place: " + text, x.fault(1), place);
    }

    private static void skyFaults() {
        skyFault("A", 1, 0);
        skyFault("law first;\t", 1, 10);
        skyFault("rock \u00e9", 1, 5);
        skyFault("rock a_b far 1", 1, 6);
        skyFault("rock a far 00001", 1, 11);
        skyFault("12345", 1, 0);
        skyFault("1234", 2, 0);
        skyFault("rock", 2, 4);
        skyFault("rock  ", 2, 6);
        skyFault("rock rock", 2, 5);
        skyFault("rock stop far 1", 2, 5);
        skyFault("rock week far 1", 2, 5);
        skyFault("rock abcdefghi far 1", 2, 5);
        skyFault("rock abcdefghijklmnopqrstuvwxyz far 1", 2, 5);
        skyFault("rock 1 far 1", 2, 5);
        skyFault("rock a fa 1", 2, 7);
        skyFault("rock a far one", 2, 11);
        skyFault("rock a far 1 round 1 at 0 swing 1;", 2, 26);
        skyFault("rock a far 1 round 1 at 0 price 1 rank 1;", 2, 34);
        skyFault("rock a far 1 round 1 at 0 wears price 1;", 2, 32);
        skyFault("rock a far 1 round 1 at 0 < ;", 2, 26);
        skyFault("rock a far 1 round 1 at 0;;", 2, 26);
        skyFault("week 1;", 2, 0);
        skyFault("rockrock a", 2, 0);
        skyFault("rock a far 21", 4, 11);
        skyFault("rock a far 20 round 0", 4, 20);
        skyFault("rock a far 20 round 100", 4, 20);
        skyFault("rock a far 20 round 99 at 12", 4, 26);
        skyFault("rock a far 20 round 99 at 11 rank 10", 4, 34);
        skyFault("rock a far 20 round 99 at 11 rank 9 price 100", 4, 42);
        skyFault("rock a far 20 round 99 at 11 rank 9 price 99 swing 21", 4, 51);
        skyFault("rock a far 20 round 99 at 11 rank 9 price 99 swing 20", 2, 53);
    }

    private static void skyFaultsOfParts() {
        String two = "rock a" + ROCK + "rock b" + ROCK;
        int n = two.length();
        skyFault(two + "rock a far 99999", 3, n + 5);
        skyFault(two + "ice c a", 3, n + 4);
        skyFault(two + "ice a c", 3, n + 6);
        skyFault(two + "ice c c", 3, n + 4);
        skyFault(two + "ice a a", 5, n + 6);
        skyFault(two + "ice a from", 2, n + 6);
        skyFault("ice a b from 1 to 2;" + two, 3, 4);
        skyFault(two + "ice a b from 401 to 1", 4, n + 13);
        skyFault(two + "ice a b from 7 to 401;", 4, n + 18);
        skyFault(two + "ice a b from 7 to 6;", 4, n + 18);
        skyFault(two + "ice a b from 7 to 7", 2, n + 19);
        skyFault(two + "ice a b to 7", 2, n + 8);
        skyFault("law none;", 2, 4);
        skyFault("law", 2, 3);
        skyFault("law rank rank", 2, 9);
        skyFault("law first;law", 5, 10);
        skyFault("law first;" + two + "law 99999", 5, n + 10);
        String six = two + "rock c" + ROCK + "rock d" + ROCK + "rock e" + ROCK + "rock f" + ROCK;
        skyFault(six + "rock a", 6, six.length());
        StringBuilder eight = new StringBuilder(two);
        for (int ice = 0; ice < 8; ice++) {
            eight.append("ice a b from 0 to 400;");
        }
        skyFault(eight + "ice x", 6, eight.length());
        SlowWorlds x = new SlowWorlds();
        CHECK.fine("10 eight ices", Check.sky(x, eight.toString()), x, 2);
        CHECK.same("13 eight ices", x.told(1), 8);
    }

    private static void yearsTexts() {
        SlowWorlds x = Check.under(STILL);
        CHECK.fine("11 years", Check.years(x, "week 1;wear a 0;order b;chance 16;when week<400;loop 99;when rules a in b;stop;end;end;end;"
                + "when wears c;end;when week>0;end;when week=0;end;"), x, 11);
        CHECK.same("12 no FAULT", x.fault(0), 0);
        CHECK.same("12 no place", x.fault(1), -1);
        StringBuilder thirty = new StringBuilder();
        for (int step = 0; step < 30; step++) {
            thirty.append("week 1;");
        }
        CHECK.fine("11 thirty", Check.years(x, thirty.toString()), x, 30);
        CHECK.fine("11 none", Check.years(x, "  \n"), x, 0);
        CHECK.fine("71 YEARS of no STEPS are there", x.live(0), x, 0);
        thirty.setLength(0);
        for (int step = 0; step < 30; step++) {
            thirty.append(step % 2 == 0 ? "loop 9;" : "when wears a;").append("end;");
        }
        CHECK.refused("11 too long: " + thirty.length(), Check.years(x, thirty.toString()), x, 1);
        x.sky(0);
        Check.sky(x, STILL);
        thirty.setLength(0);
        for (int step = 0; step < 10; step++) {
            thirty.append("loop 9;loop 9;loop 9;").append("end;end;end");
            thirty.append(step < 9 ? ";" : " ;");
        }
        String tight = thirty.toString().replace("loop 9;", "loop9;").replace(" ;", ";");
        CHECK.fine("11 thirty and thirty ends: " + tight.length(), Check.years(x, tight), x, 30);
        CHECK.fine("71 to the limit", x.live(0), x, 200);
    }

    private static void yearsFault(String text, int kind, int place) {
        SlowWorlds x = Check.under(STILL);
        Check.years(x, "stop;");
        CHECK.refused("11 " + text, Check.years(x, text), x, 9);
        CHECK.same("12 kind: " + text, x.fault(0), kind);
        CHECK.same("12 place: " + text, x.fault(1), place);
        CHECK.fine("11 the old ones stay: " + text, x.live(0), x, 1);
    }

    private static void yearsFaults() {
        yearsFault("week 1;!", 1, 7);
        yearsFault("week 10000;", 1, 5);
        yearsFault("rock a far 1", 2, 0);
        yearsFault("week", 2, 4);
        yearsFault("week a", 2, 5);
        yearsFault("week 0;", 4, 5);
        yearsFault("week 100;", 4, 5);
        yearsFault("wear d 1;", 3, 5);
        yearsFault("wear wears 1;", 2, 5);
        yearsFault("wear a 2;", 4, 7);
        yearsFault("wear a a;", 2, 7);
        yearsFault("order x;", 3, 6);
        yearsFault("order 1;", 2, 6);
        yearsFault("chance 17;", 4, 7);
        yearsFault("chance 0", 2, 8);
        yearsFault("loop 0;", 4, 5);
        yearsFault("loop 100;", 4, 5);
        yearsFault("end;", 2, 0);
        yearsFault("loop 1;end;end;", 2, 11);
        yearsFault("loop 1;week 1;", 2, 14);
        yearsFault("loop 1;end", 2, 10);
        yearsFault("when week<401;", 4, 10);
        yearsFault("when week 1;", 2, 10);
        yearsFault("when week;1;", 2, 9);
        yearsFault("when wear a;", 2, 5);
        yearsFault("when wears x;", 3, 11);
        yearsFault("when rules a b;", 2, 13);
        yearsFault("when rules a in x;", 3, 16);
        yearsFault("when rules x in 99999;", 3, 11);
        yearsFault("loop 1;loop 1;when wears a;loop", 7, 27);
        yearsFault("loop 1;loop 1;when wears a;when", 7, 27);
        StringBuilder thirty = new StringBuilder();
        for (int step = 0; step < 30; step++) {
            thirty.append(step < 27 ? "stop;" : "loop 1;");
        }
        yearsFault(thirty + "week", 6, thirty.length());
        yearsFault(thirty + "loop", 6, thirty.length());
        yearsFault(thirty + "end;end;end;end;", 2, thirty.length() + 12);
    }

    private static void facts() {
        SlowWorlds x = Check.under(STILL + "law sent;");
        int[] told = {3, 2, 3, 0, 0, 4};
        for (int what = 0; what < 6; what++) {
            CHECK.fine("13 told " + what, x.told(what), x, told[what]);
        }
        x.pass(2);
        x.order(1);
        x.wear(0, 1);
        CHECK.fine("13 WEEK", x.told(3), x, 2);
        CHECK.fine("13 ORDERS", x.told(4), x, 1);
        CHECK.fine("13 new fashion", x.told(5), x, 5);
        CHECK.refused("13 6", x.told(6), x, 1);
        CHECK.refused("13 -1", x.told(-1), x, 1);
        int[] b = {2, 1, 0, 3, 20, 2};
        for (int what = 0; what < 6; what++) {
            CHECK.fine("14 rock " + what, x.rock(1, what), x, b[what]);
        }
        CHECK.fine("14 AT", x.rock(2, 2), x, 6);
        CHECK.fine("14 RANK without", x.rock(0, 3), x, 0);
        CHECK.refused("14 rock 3", x.rock(3, 0), x, 1);
        CHECK.refused("14 rock -1", x.rock(-1, 0), x, 1);
        CHECK.refused("14 what 6", x.rock(0, 6), x, 1);
        CHECK.refused("14 what -1", x.rock(0, -1), x, 1);
        int[] ice = {2, 1, 20, 400};
        for (int what = 0; what < 4; what++) {
            CHECK.fine("15 ice " + what, x.ice(1, what), x, ice[what]);
        }
        CHECK.refused("15 ice 2", x.ice(2, 0), x, 1);
        CHECK.refused("15 ice -1", x.ice(-1, 0), x, 1);
        CHECK.refused("15 what 4", x.ice(0, 4), x, 1);
        CHECK.refused("15 what -1", x.ice(0, -1), x, 1);
    }

    private static void directionsAndLight() {
        SlowWorlds x = Check.under(MOVING);
        CHECK.fine("16 week 0", x.direction(1, 0), x, 11);
        CHECK.fine("16 round", x.direction(1, 1), x, 0);
        CHECK.fine("16 down", x.direction(2, 3), x, 1);
        CHECK.fine("16 ROUND 9, 12 by 9", x.direction(0, 2), x, 5);
        CHECK.fine("16 500: 3 and 666", x.direction(0, 500), x, 9);
        CHECK.refused("16 501", x.direction(0, 501), x, 1);
        CHECK.refused("16 -1", x.direction(0, -1), x, 1);
        CHECK.refused("16 rock", x.direction(3, 0), x, 1);
        CHECK.fine("17 from the star", x.light(0, 7, 1, 3), x, 6);
        CHECK.fine("17 one step: 6 and 1", x.light(1, 0, 2, 0), x, 7);
        CHECK.fine("17 the shorter way: 11 to 6", x.light(1, 0, 2, 12), x, 11);
        CHECK.fine("17 back as well", x.light(2, 12, 1, 0), x, 11);
        CHECK.fine("17 six steps", x.light(1, 7, 2, 0), x, 12);
        CHECK.fine("17 itself", x.light(1, 0, 1, 500), x, 0);
        CHECK.refused("17 501", x.light(1, 0, 2, 501), x, 1);
        CHECK.refused("17 501", x.light(1, 501, 2, 0), x, 1);
        CHECK.refused("17 -1", x.light(1, 0, 2, -1), x, 1);
        CHECK.refused("17 rock", x.light(1, 0, 3, 0), x, 1);
        CHECK.refused("17 rock", x.light(-1, 0, 1, 0), x, 1);
        SlowWorlds y = Check.under("rock a far 5 round 1 at 0;rock b far 5 round 1 at 0;rock c far 5 round 1 at 1;");
        CHECK.fine("17 1 at least", y.light(0, 0, 1, 0), y, 1);
        CHECK.fine("17 5 by 6 rounded down, 1 at least", y.light(0, 0, 2, 0), y, 1);
        SlowWorlds z = Check.under(STILL);
        CHECK.fine("18 first WEEK", z.iced(0, 2, 0), z, 1);
        CHECK.fine("18 last WEEK", z.iced(2, 0, 9), z, 1);
        CHECK.fine("18 behind", z.iced(0, 2, 10), z, 0);
        CHECK.fine("18 ahead", z.iced(1, 2, 19), z, 0);
        CHECK.fine("18 400", z.iced(1, 2, 400), z, 1);
        CHECK.fine("18 others", z.iced(0, 1, 5), z, 0);
        CHECK.refused("18 itself", z.iced(1, 1, 0), z, 1);
        CHECK.refused("18 401", z.iced(1, 2, 401), z, 1);
        CHECK.refused("18 -1", z.iced(1, 2, -1), z, 1);
        CHECK.refused("18 rock", z.iced(1, 3, 0), z, 1);
    }

    private static void arrivals() {
        SlowWorlds x = Check.under(STILL);
        CHECK.fine("19 arrives", x.arrives(0, 3, 1), x, 5);
        CHECK.fine("19 behind 400", x.arrives(0, 400, 2), x, 405);
        CHECK.fine("19 ahead of the ice", x.arrives(1, 19, 2), x, 24);
        CHECK.refused("19 ice", x.arrives(1, 20, 2), x, 6);
        CHECK.refused("19 ice, the other way", x.arrives(2, 20, 1), x, 6);
        CHECK.fine("19 itself", x.arrives(2, 20, 2), x, 20);
        CHECK.refused("19 401", x.arrives(0, 401, 1), x, 1);
        CHECK.refused("19 -1", x.arrives(0, -1, 1), x, 1);
        CHECK.refused("19 rock", x.arrives(3, 0, 1), x, 1);
        CHECK.refused("19 rock", x.arrives(0, 0, -1), x, 1);
        CHECK.fine("20 ship", x.ship(0, 3, 1), x, 23);
        CHECK.fine("20 ice or not", x.ship(1, 20, 2), x, 70);
        CHECK.fine("20 behind 400", x.ship(1, 400, 2), x, 450);
        CHECK.fine("20 itself", x.ship(1, 7, 1), x, 7);
        CHECK.refused("20 401", x.ship(0, 401, 1), x, 1);
        CHECK.refused("20 rock", x.ship(0, 0, 3), x, 1);
        SlowWorlds y = Check.under(MOVING);
        // From b in 0 (at 11): c is at 3 in 6 and 7 (4 steps, LIGHT 10), at 4 in 8 and 9 (11), at 5 in 10, 11 (12), at 6 in 12 (11).
        CHECK.fine("19 where the other is then", y.arrives(1, 0, 2), y, 12);
        // From c in 0 (at 0): b is at 6 in 7 (12), 7 in 8 (11), 8 in 9 (10).
        CHECK.fine("19 the other way", y.arrives(2, 0, 1), y, 10);
        SlowWorlds z = Check.under("rock a far 20 round 1 at 0;rock b far 20 round 2 at 0;rock c far 0 round 1 at 0;");
        // b is at 0 in even WEEKS (LIGHT 1), at 6 in odd ones (20).
        CHECK.fine("19 the first WEEK in which it is no more", z.arrives(0, 0, 1), z, 2);
        CHECK.fine("19 from an odd WEEK, to an even one", z.arrives(0, 1, 1), z, 2);
        CHECK.fine("20 not in an odd one", z.ship(0, 1, 1), z, 12);
        CHECK.fine("20 the longest", z.ship(0, 400, 2), z, 600);
    }

    private static void looks() {
        SlowWorlds x = Check.under(STILL);
        CHECK.fine("21 sees", x.sees(1, 0, 7), x, 5);
        CHECK.fine("21 itself", x.sees(1, 1, 7), x, 7);
        CHECK.fine("21 the first", x.sees(1, 0, 2), x, 0);
        CHECK.refused("21 none yet", x.sees(1, 0, 1), x, 6);
        CHECK.refused("21 ice to 9", x.sees(2, 0, 14), x, 6);
        CHECK.fine("21 behind the ice", x.sees(2, 0, 15), x, 10);
        CHECK.fine("21 the last ahead of ice", x.sees(2, 1, 400), x, 19);
        CHECK.refused("21 401", x.sees(1, 0, 401), x, 1);
        CHECK.refused("21 rock", x.sees(1, 3, 1), x, 1);
        CHECK.fine("25 stale", x.stale(2, 1, 400), x, 381);
        CHECK.fine("25 itself", x.stale(2, 2, 400), x, 0);
        CHECK.fine("25 stale", x.stale(0, 1, 9), x, 2);
        CHECK.refused("25 none", x.stale(2, 0, 14), x, 6);
        CHECK.refused("25 401", x.stale(2, 0, 401), x, 1);
        CHECK.refused("25 rock", x.stale(3, 0, 1), x, 1);
        CHECK.fine("26 blind", x.blind(0), x, 2);
        CHECK.fine("26 blind", x.blind(1), x, 2);
        CHECK.fine("26 blind, sees b", x.blind(2), x, 5);
        CHECK.refused("26 rock", x.blind(3), x, 1);
        SlowWorlds alone = Check.under("rock a far 3 round 7 at 2;");
        CHECK.fine("26 no other one", alone.blind(0), alone, 401);
        SlowWorlds iced = Check.under("rock a far 3 round 1 at 2;rock b far 3 round 1 at 2;ice a b from 0 to 399;");
        CHECK.fine("26 ice to 399: never by 400", iced.blind(0), iced, 401);
        SlowWorlds late = Check.under("rock a far 3 round 1 at 2;rock b far 3 round 1 at 2;ice b a from 0 to 398;");
        CHECK.fine("26 seen in 400", late.blind(1), late, 400);
        SlowWorlds z = Check.under("rock a far 20 round 1 at 0;rock b far 20 round 2 at 0;");
        CHECK.fine("21 sent in 1 is there in 2", z.sees(1, 0, 2), z, 1);
        CHECK.fine("21 and in 3 nothing newer", z.sees(1, 0, 3), z, 1);
    }

    private static void nearAndFar() {
        SlowWorlds x = Check.under(STILL);
        CHECK.fine("22 nearest", x.nearest(0, 0), x, 1);
        CHECK.fine("22 of several the first", x.nearest(2, 400), x, 0);
        CHECK.refused("22 401", x.nearest(0, 401), x, 1);
        CHECK.refused("22 rock", x.nearest(3, 0), x, 1);
        SlowWorlds alone = Check.under("rock a far 3 round 7 at 2;");
        CHECK.refused("22 no other one", alone.nearest(0, 0), alone, 6);
        CHECK.fine("24 without two", alone.span(0), alone, 0);
        CHECK.fine("24 span", x.span(500), x, 5);
        CHECK.refused("24 501", x.span(501), x, 1);
        CHECK.refused("24 -1", x.span(-1), x, 1);
        SlowWorlds y = Check.under(MOVING);
        CHECK.fine("24 span in WEEK 0", y.span(0), y, 12);
        // b and c have one DIRECTION in WEEKS 1 + 24 k + 1: b at w - 1, c at w / 2.
        CHECK.fine("23 meetings: 1 and 2, 25 and 26", y.meetings(1, 2, 0, 26), y, 4);
        CHECK.fine("23 one WEEK", y.meetings(1, 2, 2, 2), y, 1);
        CHECK.fine("23 none", y.meetings(2, 1, 3, 24), y, 0);
        CHECK.refused("23 sooner", y.meetings(1, 2, 3, 2), y, 1);
        CHECK.refused("23 itself", y.meetings(1, 1, 2, 3), y, 1);
        CHECK.refused("23 401", y.meetings(1, 2, 2, 401), y, 1);
        CHECK.refused("23 -1", y.meetings(1, 2, -1, 4), y, 1);
        CHECK.refused("23 rock", y.meetings(1, 3, 0, 4), y, 1);
        CHECK.fine("27 closest: one DIRECTION, 6", y.closest(1, 2, 0, 6), y, 1);
        CHECK.fine("27 from there on", y.closest(1, 2, 2, 6), y, 2);
        CHECK.fine("27 the next round", y.closest(1, 2, 3, 6), y, 25);
        CHECK.refused("27 none", y.closest(1, 2, 0, 5), y, 6);
        CHECK.fine("27 in 400: b at 3, c at 8, LIGHT 11", y.closest(1, 2, 400, 11), y, 400);
        CHECK.refused("27 none more", y.closest(1, 2, 400, 6), y, 6);
        CHECK.refused("27 41", y.closest(1, 2, 0, 41), y, 1);
        CHECK.fine("27 40", y.closest(1, 2, 7, 40), y, 7);
        CHECK.refused("27 light -1", y.closest(1, 2, 0, -1), y, 1);
        CHECK.refused("27 401", y.closest(1, 2, 401, 6), y, 1);
        CHECK.refused("27 itself", y.closest(2, 2, 0, 6), y, 1);
        CHECK.refused("27 rock", y.closest(2, 3, 0, 6), y, 1);
    }

    private static void news() {
        SlowWorlds x = Check.under(STILL);
        // a in 0: b in 2; from b (a and c are iced) c in 7. b's comes back in 4.
        CHECK.fine("28 knows", x.knows(0, 0, 1), x, 2);
        CHECK.fine("28 told on", x.knows(0, 0, 2), x, 7);
        CHECK.fine("28 itself", x.knows(0, 0, 0), x, 0);
        CHECK.fine("28 straight", x.knows(0, 10, 2), x, 15);
        CHECK.fine("28 behind 400", x.knows(0, 400, 2), x, 405);
        CHECK.refused("28 401", x.knows(0, 401, 2), x, 1);
        CHECK.refused("28 rock", x.knows(0, 0, 3), x, 1);
        CHECK.refused("28 rock", x.knows(3, 0, 0), x, 1);
        CHECK.fine("29 teller", x.teller(0, 0, 2), x, 1);
        CHECK.fine("29 straight", x.teller(0, 0, 1), x, 0);
        CHECK.refused("29 itself", x.teller(0, 0, 0), x, 6);
        CHECK.refused("29 week", x.teller(0, -1, 0), x, 1);
        CHECK.fine("30 hops", x.hops(0, 0, 2), x, 2);
        CHECK.fine("30 straight", x.hops(0, 0, 1), x, 1);
        CHECK.fine("30 itself", x.hops(0, 0, 0), x, 0);
        CHECK.refused("30 rock", x.hops(0, 0, -1), x, 1);
        // c in 397: a in 402, which sends nothing; b is iced.
        CHECK.fine("28 a WEEK above 400", x.knows(2, 397, 0), x, 402);
        CHECK.refused("28 sends nothing", x.knows(2, 397, 1), x, 6);
        CHECK.refused("29 never", x.teller(2, 397, 1), x, 6);
        CHECK.refused("30 never", x.hops(2, 397, 1), x, 6);
        CHECK.fine("28 WEEK 400 sends", x.knows(2, 395, 1), x, 402);
        CHECK.fine("31 knowing", x.knowing(0, 0, 1), x, 1);
        CHECK.fine("31 by then", x.knowing(0, 0, 2), x, 3);
        CHECK.fine("31 all", x.knowing(0, 0, 500), x, 7);
        CHECK.fine("31 sooner than that", x.knowing(0, 5, 4), x, 0);
        CHECK.fine("31 never", x.knowing(2, 397, 500), x, 5);
        CHECK.refused("31 501", x.knowing(0, 0, 501), x, 1);
        CHECK.refused("31 week", x.knowing(0, 401, 500), x, 1);
        CHECK.fine("32 overtaken", x.overtaken(0, 0), x, 4);
        CHECK.fine("32 straight", x.overtaken(0, 10), x, 0);
        CHECK.refused("32 week", x.overtaken(0, 401), x, 1);
        CHECK.fine("36 cutOff", x.cutOff(2, 397), x, 2);
        CHECK.fine("36 none", x.cutOff(0, 0), x, 0);
        CHECK.refused("36 rock", x.cutOff(3, 0), x, 1);
        CHECK.fine("37 hearsBack", x.hearsBack(0, 0), x, 4);
        CHECK.fine("37 c's by way of a: b is iced", x.hearsBack(2, 30), x, 40);
        CHECK.refused("37 never", x.hearsBack(2, 397), x, 6);
        CHECK.refused("37 rock", x.hearsBack(-1, 0), x, 1);
        // b and c stand in the star with a: LIGHT 1 each; a and d are 3 apart, as all are with d.
        SlowWorlds y = Check.under("rock a far 0 round 1 at 0;rock b far 0 round 1 at 0;rock c far 0 round 1 at 0;"
                + "rock d far 3 round 1 at 0;ice a d from 0 to 400;");
        CHECK.fine("29 of several the first", y.teller(0, 0, 3), y, 1);
        CHECK.fine("29 of several, straight too", y.teller(1, 0, 2), y, 1);
        CHECK.fine("28 by two", y.knows(0, 0, 3), y, 4);
    }

    private static void newsOfAll() {
        SlowWorlds x = Check.under(STILL);
        x.tray(0, 2, 3);
        x.write(0, 0, 0);
        x.write(0, 1, 2);
        x.write(0, 2, 6);
        CHECK.fine("33 early: c in 6, not 7", x.early(0, 0, 0), x, 4);
        CHECK.fine("33 all", x.early(0, 10, 0), x, 7);
        x.write(0, 1, 500);
        CHECK.fine("33 who never KNOWS it", x.early(2, 397, 0), x, 7);
        x.write(0, 0, 402);
        x.write(0, 2, 397);
        CHECK.fine("33 who never KNOWS it, alone", x.early(2, 397, 0), x, 2);
        CHECK.refused("33 missing", x.early(0, 0, 1), x, 2);
        CHECK.refused("33 week ahead of missing", x.early(0, 401, 1), x, 1);
        CHECK.refused("33 rock", x.early(3, 0, 1), x, 1);
        CHECK.refused("33 tray", x.early(0, 0, 4), x, 1);
        x.tray(1, 0, 2);
        x.write(1, 0, -1);
        CHECK.isTrue("33 its own WEEK, too", (x.early(2, 397, 0) & 4) == 0);
        CHECK.refused("33 too few, ahead of what can't be", x.early(0, 0, 1), x, 3);
        x.write(0, 2, -1);
        CHECK.refused("33 -1", x.early(0, 0, 0), x, 5);
        x.write(0, 2, 501);
        CHECK.refused("33 501", x.early(0, 0, 0), x, 5);
        x.tray(2, 3, 4);
        x.write(2, 3, -7);
        CHECK.fine("33 a tray with more", x.early(0, 0, 2), x, 6);
        CHECK.fine("34 latest", x.latest(0, 0), x, 2);
        CHECK.fine("34 latest", x.latest(2, 30), x, 1);
        CHECK.refused("34 never", x.latest(2, 397), x, 6);
        CHECK.refused("34 week", x.latest(2, 401), x, 1);
        // In 0: from a all by 7, from b by 5, from c b in 5, a in 7. In 30: from a 35, from b a in 32, c in 37; from c 37.
        CHECK.fine("35 centre", x.centre(0), x, 1);
        CHECK.fine("35 centre", x.centre(30), x, 0);
        CHECK.refused("35 week", x.centre(401), x, 1);
        // In 0: a 0 + 2 + 7, b 2 + 0 + 5, c 7 + 5 + 0. In 400: a 400 + 402 + 405, b 402 + 400 + never, c 405 + never + 400.
        CHECK.fine("38 remote", x.remote(0), x, 2);
        CHECK.fine("38 remote, never", x.remote(400), x, 2);
        CHECK.refused("38 week", x.remote(-1), x, 1);
        SlowWorlds two = Check.under("rock a far 0 round 1 at 0;rock b far 3 round 1 at 0;ice a b from 0 to 400;");
        CHECK.refused("35 from none", two.centre(0), two, 6);
        CHECK.fine("38 of several the first", two.remote(0), two, 0);
        CHECK.refused("37 never", two.hearsBack(0, 0), two, 6);
        SlowWorlds even = Check.under("rock a far 0 round 1 at 0;rock b far 3 round 1 at 0;rock c far 3 round 1 at 0;");
        CHECK.fine("34 of several the first", even.latest(0, 0), even, 1);
        CHECK.fine("35 of several the first", even.centre(0), even, 0);
        SlowWorlds one = Check.under("rock a far 0 round 1 at 0;");
        CHECK.fine("34 itself", one.latest(0, 5), one, 0);
        CHECK.fine("35 itself", one.centre(5), one, 0);
        SlowWorlds none = new SlowWorlds();
        CHECK.refused("35 no rocks", none.centre(0), none, 6);
        CHECK.refused("38 no rocks", none.remote(0), none, 6);
        CHECK.refused("38 week first", none.remote(401), none, 1);
    }

    private static void orders() {
        SlowWorlds x = Check.under(STILL);
        CHECK.refused("39 rock", x.order(3), x, 1);
        CHECK.refused("39 rock", x.order(-1), x, 1);
        CHECK.fine("39 order", x.order(0), x, 0);
        x.pass(5);
        CHECK.fine("39 order", x.order(2), x, 1);
        CHECK.fine("40 by whom", x.given(1, 0), x, 2);
        CHECK.fine("40 in which WEEK", x.given(1, 1), x, 5);
        CHECK.refused("40 order", x.given(2, 0), x, 1);
        CHECK.refused("40 order", x.given(-1, 0), x, 1);
        CHECK.refused("40 what", x.given(0, 2), x, 1);
        CHECK.refused("40 what", x.given(0, -1), x, 1);
        CHECK.fine("41 heard", x.heard(0, 2), x, 7);
        CHECK.fine("41 told on", x.heard(1, 0), x, 12);
        CHECK.fine("41 itself", x.heard(1, 2), x, 5);
        CHECK.refused("41 order", x.heard(2, 0), x, 1);
        CHECK.refused("41 rock", x.heard(0, 3), x, 1);
        for (int order = 2; order < 20; order++) {
            CHECK.fine("39 order", x.order(1), x, order);
        }
        CHECK.refused("39 one too many", x.order(1), x, 4);
        CHECK.refused("39 rock first", x.order(5), x, 1);
        CHECK.same("39 twenty", x.told(4), 20);
        SlowWorlds y = Check.under(STILL);
        passTo(y, 397);
        y.order(2);
        CHECK.refused("41 never", y.heard(0, 1), y, 6);
        CHECK.fine("41 behind 400", y.heard(0, 0), y, 402);
    }

    private static void passTo(SlowWorlds x, int week) {
        for (int turn = 0; turn < 9 && x.told(3) < week; turn++) {
            x.pass(Math.min(99, week - x.told(3)));
        }
    }

    /** a orders in 0 (b 2, c 7), c in 5 (b 10, a 12), b in 5 (a 7, c 10). */
    private static SlowWorlds threeOrders(String law) {
        SlowWorlds x = Check.under(STILL + law);
        x.order(0);
        x.pass(5);
        x.order(2);
        x.order(1);
        return x;
    }

    private static void laws() {
        // For each law the rulers at a, b, c in WEEKS 4, 5, 7, 10, 12.
        lawsAre("", new int[][] {{0, 0, 0, 0, 0}, {0, 0, 0, 0, 0}, {-1, 1, 1, 1, 1}});
        lawsAre("law first;", new int[][] {{0, 0, 0, 0, 0}, {0, 0, 0, 0, 0}, {-1, 1, 1, 1, 1}});
        lawsAre("law last;", new int[][] {{0, 0, 2, 2, 1}, {0, 2, 2, 1, 1}, {-1, 1, 0, 2, 2}});
        lawsAre("law rank;", new int[][] {{0, 0, 2, 2, 1}, {0, 2, 2, 1, 1}, {-1, 1, 1, 1, 1}});
        lawsAre("law sent;", new int[][] {{0, 0, 0, 0, 0}, {0, 0, 0, 0, 0}, {-1, 1, 0, 0, 0}});
        SlowWorlds x = threeOrders("law last;");
        CHECK.refused("42 rock", x.rules(3, 4), x, 1);
        CHECK.refused("42 501", x.rules(0, 501), x, 1);
        CHECK.refused("42 -1", x.rules(0, -1), x, 1);
        CHECK.fine("42 500", x.rules(0, 500), x, 1);
        x.order(0);
        x.order(0);
        CHECK.fine("42 of several of one WEEK the first given, by last too", x.rules(0, 5), x, 3);
    }

    private static void lawsAre(String law, int[][] due) {
        SlowWorlds x = threeOrders(law);
        int[] weeks = {4, 5, 7, 10, 12};
        for (int rock = 0; rock < 3; rock++) {
            for (int i = 0; i < weeks.length; i++) {
                String what = "42 " + law + " rock " + rock + " week " + weeks[i];
                if (due[rock][i] < 0) {
                    CHECK.refused(what, x.rules(rock, weeks[i]), x, 6);
                } else {
                    CHECK.fine(what, x.rules(rock, weeks[i]), x, due[rock][i]);
                }
            }
        }
    }

    private static void rulers() {
        SlowWorlds x = threeOrders("law rank;");
        CHECK.fine("43 ruled", x.ruled(0, 5), x, 1);
        CHECK.fine("43 ruled", x.ruled(2, 7), x, 3);
        CHECK.fine("43 ruled", x.ruled(1, 500), x, 7);
        CHECK.fine("43 nowhere", x.ruled(2, 500), x, 0);
        CHECK.refused("43 order", x.ruled(3, 0), x, 1);
        CHECK.refused("43 501", x.ruled(0, 501), x, 1);
        CHECK.fine("47 peace", x.peace(0), x, 12);
        CHECK.fine("47 peace from one on", x.peace(13), x, 13);
        CHECK.fine("47 500", x.peace(500), x, 500);
        CHECK.refused("47 501", x.peace(501), x, 1);
        CHECK.refused("47 -1", x.peace(-1), x, 1);
        CHECK.fine("49 reign", x.reign(0, 0), x, 7);
        CHECK.fine("49 reign", x.reign(2, 0), x, 5);
        CHECK.fine("49 reign to 500", x.reign(1, 0), x, 489);
        CHECK.fine("49 nowhere", x.reign(0, 2), x, 0);
        CHECK.refused("49 order", x.reign(3, 0), x, 1);
        CHECK.refused("49 rock", x.reign(0, 3), x, 1);
        CHECK.fine("50 idle", x.idle(), x, 0);
        SlowWorlds y = threeOrders("law first;");
        CHECK.refused("47 none: c is its own", y.peace(0), y, 6);
        CHECK.fine("50 idle: b's", y.idle(), y, 1);
        CHECK.fine("48 kth", y.kth(0, 0), y, 0);
        CHECK.fine("48 kth", y.kth(0, 1), y, 2);
        CHECK.fine("48 kth", y.kth(0, 2), y, 1);
        CHECK.fine("48 kth", y.kth(2, 0), y, 1);
        CHECK.fine("48 kth", y.kth(2, 1), y, 0);
        CHECK.refused("48 none such", y.kth(0, 3), y, 6);
        CHECK.refused("48 none such", y.kth(0, Integer.MAX_VALUE), y, 6);
        CHECK.refused("48 -1", y.kth(0, -1), y, 1);
        CHECK.refused("48 rock", y.kth(3, 0), y, 1);
        y.order(2);
        CHECK.fine("48 of one WEEK by numbers", y.kth(2, 1), y, 3);
        SlowWorlds none = new SlowWorlds();
        CHECK.refused("47 no rocks", none.peace(0), none, 6);
        CHECK.fine("50 no orders", none.idle(), none, 0);
        SlowWorlds one = Check.under("rock a far 0 round 1 at 0;");
        CHECK.refused("47 no orders", one.peace(0), one, 6);
        one.pass(3);
        one.order(0);
        one.order(0);
        CHECK.fine("47 one alone", one.peace(0), one, 3);
        CHECK.fine("42 first: of several the first given", one.rules(0, 3), one, 0);
        CHECK.fine("50 the second", one.idle(), one, 1);
        CHECK.fine("46 no orders", none.disputes(), none, 0);
    }

    private static void couplesOfOrders() {
        SlowWorlds x = threeOrders("");
        // a KNOWS them in 0, 12, 7; b in 2, 10, 5; c in 7, 5, 10.
        CHECK.fine("44 before", x.before(0, 1, 0), x, 0);
        CHECK.fine("44 the other way", x.before(1, 0, 0), x, 1);
        CHECK.fine("44 before", x.before(0, 1, 2), x, 1);
        CHECK.refused("44 itself", x.before(1, 1, 0), x, 1);
        CHECK.refused("44 order", x.before(0, 3, 0), x, 1);
        CHECK.refused("44 rock", x.before(0, 1, 3), x, 1);
        CHECK.fine("45 not", x.oneForAll(0, 1), x, 0);
        CHECK.fine("45 one for all", x.oneForAll(0, 2), x, 1);
        CHECK.fine("45 not", x.oneForAll(2, 1), x, 0);
        CHECK.refused("45 itself", x.oneForAll(1, 1), x, 1);
        CHECK.refused("45 order", x.oneForAll(-1, 1), x, 1);
        CHECK.fine("46 disputes", x.disputes(), x, 2);
        x.order(1);
        CHECK.fine("44 both in one WEEK", x.before(2, 3, 0), x, 2);
        CHECK.fine("45 all both in one WEEK", x.oneForAll(2, 3), x, 1);
        CHECK.fine("46 disputes: 0 1, 1 2, 1 3", x.disputes(), x, 3);
        SlowWorlds y = Check.under(STILL);
        passTo(y, 397);
        y.order(2);
        y.order(2);
        y.order(1);
        // By c: a 402, b never, c 397. By b: a 399, c 404, b 397.
        CHECK.refused("44 neither", y.before(0, 1, 1), y, 6);
        CHECK.fine("44 one that it never KNOWS is later", y.before(0, 2, 1), y, 1);
        CHECK.fine("44 one that it never KNOWS is later", y.before(2, 0, 1), y, 0);
        SlowWorlds z = Check.under("rock a far 0 round 1 at 0;rock b far 3 round 1 at 0;ice a b from 0 to 400;");
        z.order(0);
        z.order(1);
        CHECK.fine("45 none KNOWS both", z.oneForAll(0, 1), z, 1);
        SlowWorlds w = Check.under("rock a far 0 round 1 at 0;rock b far 1 round 1 at 0;rock c far 0 round 1 at 0;");
        w.order(0);
        w.order(1);
        w.order(2);
        // a and c are one apart, as all are: who orders is ahead, the third hears both in one WEEK.
        CHECK.fine("44 both in one WEEK", w.before(0, 1, 2), w, 2);
        CHECK.fine("45 not all in one WEEK", w.oneForAll(0, 1), w, 0);
        CHECK.fine("46 all", w.disputes(), w, 3);
    }

    private static void echoes() {
        SlowWorlds x = Check.under(STILL);
        CHECK.fine("51 echo", x.echo(0, 3, 1), x, 7);
        CHECK.fine("51 echo", x.echo(1, 14, 2), x, 24);
        CHECK.refused("51 the answer meets ice", x.echo(1, 15, 2), x, 6);
        CHECK.refused("51 ice", x.echo(0, 9, 2), x, 6);
        CHECK.refused("51 itself", x.echo(0, 3, 0), x, 1);
        CHECK.refused("51 401", x.echo(0, 401, 1), x, 1);
        CHECK.refused("51 rock", x.echo(0, 3, 3), x, 1);
        CHECK.fine("51 an answer of WEEK 400", x.echo(0, 398, 1), x, 402);
        CHECK.refused("51 WEEKS above 400 send nothing", x.echo(0, 399, 1), x, 6);
        CHECK.fine("52 answered", x.answered(0, 1, 10), x, 6);
        CHECK.fine("52 answered", x.answered(0, 1, 4), x, 0);
        CHECK.refused("52 none", x.answered(0, 1, 3), x, 6);
        CHECK.fine("52 behind ice", x.answered(0, 2, 20), x, 10);
        CHECK.refused("52 behind ice", x.answered(0, 2, 19), x, 6);
        CHECK.fine("52 ahead of ice", x.answered(1, 2, 500), x, 14);
        CHECK.fine("52 the last", x.answered(0, 1, 500), x, 398);
        CHECK.refused("52 501", x.answered(0, 1, 501), x, 1);
        CHECK.refused("52 itself", x.answered(1, 1, 9), x, 1);
        CHECK.refused("52 rock", x.answered(1, 3, 9), x, 1);
    }

    private static void plans() {
        SlowWorlds x = threeOrders("");
        CHECK.fine("53 joint", x.joint(0, 3), x, 2);
        CHECK.fine("53 joint", x.joint(0, 7), x, 7);
        CHECK.fine("53 of one", x.joint(1, 1), x, 12);
        CHECK.refused("53 no rocks", x.joint(0, 0), x, 1);
        CHECK.refused("53 others", x.joint(0, 8), x, 1);
        CHECK.refused("53 others", x.joint(0, 9), x, 1);
        CHECK.refused("53 -1", x.joint(0, -1), x, 1);
        CHECK.refused("53 order", x.joint(3, 1), x, 1);
        // b's: a in 7, which answers, is back in 9; c in 10, back in 15.
        CHECK.fine("54 confirmed", x.confirmed(2, 1), x, 9);
        CHECK.fine("54 confirmed", x.confirmed(2, 7), x, 15);
        CHECK.fine("54 who gave it alone", x.confirmed(2, 2), x, 5);
        // a's: c in 7, whose answer meets ice.
        CHECK.refused("54 ice", x.confirmed(0, 4), x, 6);
        CHECK.fine("54 without it", x.confirmed(0, 3), x, 4);
        CHECK.refused("54 no rocks", x.confirmed(0, 0), x, 1);
        CHECK.refused("54 others", x.confirmed(0, 8), x, 1);
        CHECK.refused("54 order", x.confirmed(-1, 1), x, 1);
        CHECK.refused("55 a KNOWS it in 7, and is iced from c", x.sure(2, 0, 2), x, 6);
        CHECK.fine("55 sure", x.sure(2, 0, 1), x, 9);
        CHECK.fine("55 sure", x.sure(2, 2, 0), x, 15);
        CHECK.fine("55 sure of who gave it", x.sure(2, 1, 0), x, 7);
        CHECK.refused("55 ice", x.sure(0, 2, 0), x, 6);
        CHECK.refused("55 itself", x.sure(0, 2, 2), x, 1);
        CHECK.refused("55 order", x.sure(3, 0, 1), x, 1);
        CHECK.refused("55 rock", x.sure(0, 0, 3), x, 1);
        SlowWorlds y = Check.under(STILL);
        passTo(y, 397);
        y.order(2);
        CHECK.refused("53 never", y.joint(0, 2), y, 6);
        CHECK.fine("53 joint", y.joint(0, 5), y, 402);
        CHECK.refused("54 never", y.confirmed(0, 2), y, 6);
        CHECK.refused("54 WEEKS above 400 send nothing", y.confirmed(0, 1), y, 6);
        CHECK.refused("55 WEEKS above 400 send nothing", y.sure(0, 0, 2), y, 6);
        CHECK.refused("55 never", y.sure(0, 1, 2), y, 6);
    }

    private static void cheapWays() {
        SlowWorlds x = Check.under("rock a far 0 round 1 at 0;rock b far 2 round 1 at 0;rock c far 5 round 1 at 0;ice a b from 7 to 7;");
        // a-b 2, b-c 3, a-c 5: straight 25, by b 4 + 9.
        CHECK.fine("56 by another", x.cheap(0, 0, 2, 5), x, 13);
        CHECK.refused("56 not by then", x.cheap(0, 0, 2, 4), x, 6);
        CHECK.fine("56 itself", x.cheap(0, 4, 0, 4), x, 0);
        CHECK.refused("56 itself, not by then", x.cheap(0, 4, 0, 3), x, 6);
        CHECK.fine("56 ice", x.cheap(0, 7, 2, 12), x, 25);
        // From a in 7: c in 12 (25), b in 15 (34).
        CHECK.fine("56 round the ice", x.cheap(0, 7, 1, 15), x, 34);
        CHECK.refused("56 not by then", x.cheap(0, 7, 1, 14), x, 6);
        CHECK.fine("56 460", x.cheap(0, 400, 1, 460), x, 4);
        CHECK.fine("56 WEEKS above 400 send nothing", x.cheap(0, 400, 2, 460), x, 25);
        CHECK.refused("56 461", x.cheap(0, 0, 1, 461), x, 1);
        CHECK.refused("56 -1", x.cheap(0, 0, 1, -1), x, 1);
        CHECK.refused("56 week", x.cheap(0, 401, 1, 460), x, 1);
        CHECK.refused("56 rock", x.cheap(0, 0, 3, 460), x, 1);
        CHECK.refused("56 rock", x.cheap(-1, 0, 1, 460), x, 1);
        SlowWorlds y = Check.under("rock a far 0 round 1 at 0;rock b far 9 round 1 at 0;rock c far 1 round 1 at 0;"
                + "ice a b from 0 to 0;ice c b from 0 to 1;");
        // a to c in 1 (1), iced; back to a in 2 (2), c in 3 (3), b in 11 (3 + 64).
        CHECK.fine("56 to and fro until the ice is gone", y.cheap(0, 0, 1, 400), y, 67);
        // a in 2 (2) straight to b in 11 (83).
        CHECK.fine("56 by then", y.cheap(0, 0, 1, 11), y, 67);
        CHECK.refused("56 not by then", y.cheap(0, 0, 1, 10), y, 6);
    }

    private static void prices() {
        SlowWorlds x = Check.under(MOVING);
        CHECK.fine("57 price", x.price(1, 0), x, 38);
        CHECK.fine("57 price", x.price(1, 1), x, 5);
        CHECK.fine("57 without swing", x.price(2, 500), x, 1);
        CHECK.fine("57 without price", x.price(0, 3), x, 0);
        CHECK.refused("57 501", x.price(1, 501), x, 1);
        CHECK.refused("57 rock", x.price(3, 0), x, 1);
        // a sees b six WEEKS late.
        CHECK.fine("58 price seen", x.priceSeen(0, 1, 6), x, 38);
        CHECK.fine("58 price seen", x.priceSeen(0, 1, 9), x, 11);
        CHECK.fine("58 itself", x.priceSeen(1, 1, 9), x, 29);
        CHECK.refused("58 not seen", x.priceSeen(0, 1, 5), x, 6);
        CHECK.refused("58 401", x.priceSeen(0, 1, 401), x, 1);
        CHECK.refused("58 rock", x.priceSeen(0, 3, 4), x, 1);
        // A ship from a in 3 is at b in 63: DIRECTION 62 by 12: 2.
        CHECK.fine("59 gain", x.gain(0, 3, 1), x, 11);
        // From b in 0 to a: 0 less 38.
        CHECK.fine("59 below 0", x.gain(1, 0, 0), x, -38);
        CHECK.refused("59 itself", x.gain(1, 0, 1), x, 1);
        CHECK.refused("59 401", x.gain(0, 401, 1), x, 1);
        CHECK.refused("59 rock", x.gain(0, 0, 3), x, 1);
        CHECK.fine("60 hoped, as seen when it goes", x.hoped(0, 6, 1), x, 38);
        CHECK.fine("60 hoped, below 0", x.hoped(1, 6, 0), x, -20);
        CHECK.refused("60 not seen", x.hoped(0, 5, 1), x, 6);
        CHECK.refused("60 itself", x.hoped(0, 6, 0), x, 1);
        CHECK.refused("60 401", x.hoped(0, 401, 1), x, 1);
        CHECK.fine("61 market: b gains 11, c 1", x.market(0, 3), x, 1);
        // From a in 1 a ship is at b in 61, DIRECTION 0: 5. From b to a 0, to c 1.
        CHECK.fine("61 market", x.market(1, 0), x, 2);
        CHECK.refused("61 401", x.market(0, 401), x, 1);
        CHECK.refused("61 rock", x.market(3, 0), x, 1);
        SlowWorlds y = Check.under("rock a far 1 round 1 at 0;rock b far 1 round 1 at 0 price 3;rock c far 1 round 1 at 0 price 3;");
        CHECK.fine("61 of several the first", y.market(0, 0), y, 1);
        CHECK.fine("59 gain of -1 to be", y.gain(1, 0, 0), y, -3);
        SlowWorlds alone = Check.under("rock a far 1 round 1 at 0;");
        CHECK.refused("61 no other one", alone.market(0, 0), alone, 6);
        SlowWorlds one = Check.under("rock a far 1 round 1 at 0 price 3;rock b far 1 round 1 at 0 price 2;");
        CHECK.fine("59 -1", one.gain(0, 0, 1), one, -1);
        CHECK.fine("60 -1", one.hoped(0, 1, 1), one, -1);
    }

    private static void fashions() {
        // LIGHT 1 among all: each sees the others as they were a WEEK ago.
        SlowWorlds x = Check.under("rock a far 1 round 1 at 0 wears;rock b far 1 round 1 at 0;rock c far 1 round 1 at 0 wears;");
        CHECK.fine("63 pass", x.pass(1), x, 1);
        // a saw one each: as ahead. b saw two new. c saw one each.
        CHECK.same("63 fashions", x.told(5), 7);
        CHECK.fine("65 wear", x.wear(0, 0), x);
        CHECK.fine("65 wear", x.wear(1, 0), x);
        CHECK.same("65 from now on", x.told(5), 4);
        CHECK.fine("64 wore", x.wore(0, 0), x, 1);
        CHECK.fine("64 wore now", x.wore(0, 1), x, 0);
        CHECK.fine("66 fashion", x.fashion(0, 2), x, 1);
        CHECK.fine("66 as it was", x.fashion(2, 0), x, 1);
        x.pass(1);
        // a and b saw one each and stay old, c saw two old ones.
        CHECK.same("63 fashions", x.told(5), 0);
        CHECK.fine("66 as it was", x.fashion(0, 2), x, 1);
        CHECK.fine("69 changes", x.changes(0), x, 1);
        CHECK.fine("69 changes", x.changes(1), x, 0);
        CHECK.fine("69 changes", x.changes(2), x, 1);
        CHECK.fine("70 uniform", x.uniform(), x, 1);
        x.pass(7);
        CHECK.fine("70 uniform", x.uniform(), x, 8);
        x.wear(0, 1);
        CHECK.fine("70 not now", x.uniform(), x, 7);
        x.wear(1, 1);
        x.wear(2, 1);
        CHECK.fine("70 all new", x.uniform(), x, 8);
        x.wear(0, 0);
        x.wear(1, 0);
        x.wear(2, 0);
        CHECK.refused("64 not yet", x.wore(0, 10), x, 1);
        CHECK.refused("64 -1", x.wore(0, -1), x, 1);
        CHECK.refused("64 rock", x.wore(3, 0), x, 1);
        CHECK.refused("65 what", x.wear(0, 2), x, 1);
        CHECK.refused("65 what", x.wear(0, -1), x, 1);
        CHECK.refused("65 rock", x.wear(3, 0), x, 1);
        CHECK.refused("66 itself", x.fashion(1, 1), x, 1);
        CHECK.refused("66 rock", x.fashion(1, 3), x, 1);
        CHECK.refused("69 rock", x.changes(3), x, 1);
        CHECK.refused("63 0", x.pass(0), x, 1);
        CHECK.refused("63 100", x.pass(100), x, 1);
        passTo(x, 399);
        CHECK.refused("63 behind 400", x.pass(2), x, 4);
        CHECK.same("63 changes nothing", x.told(3), 399);
        CHECK.refused("63 100 first", x.pass(100), x, 1);
        CHECK.fine("63 to 400", x.pass(1), x, 400);
        CHECK.refused("63 behind 400", x.pass(1), x, 4);
        SlowWorlds y = Check.under(STILL);
        CHECK.refused("66 not seen", y.fashion(0, 1), y, 6);
        y.pass(5);
        // a sees b (old) from 2 on, c is iced; b sees a (old) from 2, c (new) from 5; c sees b (old) from 5.
        CHECK.same("63 c is old then", y.told(5), 0);
        CHECK.fine("69 changes", y.changes(2), y, 1);
        CHECK.fine("64 to the week ahead", y.wore(2, 4), y, 1);
        SlowWorlds none = new SlowWorlds();
        none.pass(4);
        CHECK.fine("70 without rocks", none.uniform(), none, 5);
    }

    private static void follows() {
        SlowWorlds x = Check.under("rock a far 1 round 1 at 0 wears;rock b far 1 round 1 at 0;rock c far 5 round 1 at 0;");
        CHECK.fine("67 ahead of 1", x.follows(0, 1), x, 0);
        x.pass(4);
        // a sees b a WEEK late and c from 4 on, b likewise. WEEK 1: a is as b was, b as a was.
        CHECK.same("63 they change places", x.wore(0, 1) + 2 * x.wore(1, 1), 2);
        CHECK.same("63 and again", x.wore(0, 2) + 2 * x.wore(1, 2), 1);
        CHECK.same("63 and again", x.wore(0, 3) + 2 * x.wore(1, 3), 2);
        // WEEK 4: a sees b new, c old: as ahead, old; b sees a old, c old.
        CHECK.same("63 c is seen", x.told(5), 0);
        CHECK.fine("67 a follows b in 1, 2, 3", x.follows(0, 1), x, 3);
        CHECK.fine("67 b follows a in all", x.follows(1, 0), x, 4);
        CHECK.fine("67 c is seen in 4", x.follows(0, 2), x, 1);
        // c sees a (new) and b (old) of 0 in 4 and stays old.
        CHECK.fine("67 c follows a not", x.follows(2, 0), x, 0);
        CHECK.fine("67 c follows b", x.follows(2, 1), x, 1);
        CHECK.fine("68 model", x.model(0), x, 1);
        CHECK.fine("68 model", x.model(2), x, 1);
        CHECK.refused("67 itself", x.follows(2, 2), x, 1);
        CHECK.refused("67 rock", x.follows(2, 3), x, 1);
        CHECK.refused("68 rock", x.model(-1), x, 1);
        SlowWorlds y = Check.under(STILL);
        CHECK.fine("68 of several the first", y.model(0), y, 1);
        CHECK.fine("68 of several the first", y.model(1), y, 0);
        SlowWorlds alone = Check.under("rock a far 1 round 1 at 0;");
        CHECK.refused("68 no other one", alone.model(0), alone, 6);
        alone.pass(3);
        CHECK.fine("70 one alone", alone.uniform(), alone, 4);
    }

    private static SlowWorlds with(String years) {
        SlowWorlds x = Check.under(STILL);
        CHECK.isTrue("11 " + years, Check.years(x, years) >= 0);
        return x;
    }

    private static void livedIs(SlowWorlds x, int missed, int weeks, int turned, int orders, int left) {
        int[] due = {missed, weeks, turned, orders, left};
        for (int what = 0; what < 5; what++) {
            CHECK.fine("72 lived " + what, x.lived(what), x, due[what]);
        }
    }

    private static void living() {
        SlowWorlds x = with("week 3;wear a 1;order b;week 2;wear c 0;");
        CHECK.refused("72 none yet", x.lived(0), x, 6);
        CHECK.refused("72 what", x.lived(5), x, 1);
        CHECK.refused("72 what", x.lived(-1), x, 1);
        CHECK.refused("71 seed", x.live(10000), x, 1);
        CHECK.refused("71 seed", x.live(-1), x, 1);
        CHECK.fine("71 live", x.live(9999), x, 5);
        livedIs(x, 0, 5, 0, 1, 0);
        CHECK.same("71 all is as it is then", x.told(3), 5);
        CHECK.same("71 orders", x.given(0, 1), 3);
        CHECK.same("71 fashions", x.wore(0, 3), 1);
        CHECK.fine("71 once more, from there on", x.live(0), x, 5);
        CHECK.same("71 once more", x.told(3), 10);
        // s: 1, 13986 (by 8 1748, by 16 the draw 4), 36879 (4609: 1), 9432 (1179: 11).
        SlowWorlds chance = with("chance 5;");
        CHECK.fine("71 chance", chance.live(1), chance, 1);
        CHECK.same("71 a and b are turned", chance.told(5), 7);
        livedIs(chance, 0, 0, 2, 0, 0);
        SlowWorlds less = with("chance 4;");
        CHECK.fine("71 chance", less.live(1), less, 1);
        CHECK.same("71 b alone is turned", less.told(5), 6);
        SlowWorlds more = with("chance 4;chance 16;chance 0;chance 7;");
        CHECK.fine("71 chance", more.live(1), more, 4);
        livedIs(more, 0, 0, 3 + drawsBelow(1, 9, 3, 7) + drawsBelow(1, 0, 3, 4), 0, 0);
        SlowWorlds tests = with("week 2;when week<2;wear a 1;end;when week=2;wear b 1;end;when week>2;wear a 1;end;"
                + "when wears b;order a;end;when wears a;order b;order b;end;when rules a in a;loop 2;week 1;end;end;when rules a in b;stop;end;");
        CHECK.fine("71 tests", tests.live(0), tests, 1 + 1 + 2 + 1 + 2 + 1 + 1 + 1 + 2 + 1 + 1);
        CHECK.same("71 week =", tests.wore(1, 2), 1);
        CHECK.same("71 week < and >", tests.wore(0, 2), 0);
        livedIs(tests, 0, 4, 0, 1, 0);
    }

    /** Of the draws of a seed, behind so many, how many of the next ones are below a number. */
    private static int drawsBelow(int seed, int behind, int many, int below) {
        long s = seed;
        int count = 0;
        for (int i = 0; i < behind + many; i++) {
            s = (s * 2893 + 11093) % 65536;
            count += i >= behind && s / 8 % 16 < below ? 1 : 0;
        }
        return count;
    }

    private static void livingEnds() {
        SlowWorlds x = with("loop 4;week 99;end;order a;week 99;week 1;");
        CHECK.fine("71 live", x.live(0), x, 8);
        livedIs(x, 1 + 1, 400, 0, 1, 0);
        CHECK.same("71 396, then 4 of 99", x.told(3), 400);
        SlowWorlds orders = with("loop 23;order c;end;");
        CHECK.fine("71 loop", orders.live(0), orders, 24);
        livedIs(orders, 3, 0, 0, 20, 0);
        SlowWorlds stop = with("loop 9;week 1;when week>2;stop;end;end;wear a 1;");
        CHECK.fine("71 stop", stop.live(0), stop, 1 + 2 + 2 + 3);
        livedIs(stop, 0, 3, 0, 0, 0);
        SlowWorlds exact = with("loop 99;wear a 1;wear a 0;end;wear b 1;");
        CHECK.fine("71 199 and one", exact.live(0), exact, 200);
        livedIs(exact, 0, 0, 0, 0, 0);
        CHECK.same("71 the last was done", exact.told(5), 6);
        SlowWorlds left = with("loop 99;wear a 1;wear a 0;end;wear b 1;wear b 0;");
        CHECK.fine("71 one is left", left.live(0), left, 200);
        livedIs(left, 0, 0, 0, 0, 1);
        CHECK.same("71 the last was not done", left.told(5), 6);
        SlowWorlds ends = with("loop 99;when wears a;loop 9;end;end;loop 1;end;end;stop;");
        CHECK.fine("71 ends are none", ends.live(0), ends, 200);
        livedIs(ends, 0, 0, 0, 0, 0);
        SlowWorlds empty = with("loop 99;loop 99;loop 99;end;end;end;");
        CHECK.fine("71 empty loops", empty.live(0), empty, 200);
        livedIs(empty, 0, 0, 0, 0, 1);
        Check.sky(empty, STILL);
        CHECK.refused("71 no YEARS", empty.live(0), empty, 6);
        livedIs(empty, 0, 0, 0, 0, 1);
        CHECK.refused("71 seed first", empty.live(-1), empty, 1);
    }

    private static void means() {
        SlowWorlds x = with("order a;week 3;chance 16;");
        x.live(0);
        x.back();
        int week = x.told(3);
        // Behind three WEEKS more all are turned round.
        CHECK.fine("73 mean", x.mean(0, 10), x);
        CHECK.same("73 all stays", x.told(3), week);
        CHECK.same("73 all stays", x.told(4), 1);
        livedIs(x, 0, 3, 3, 1, 0);
        SlowWorlds y = with("wear c 0;chance 5;");
        int sum = 0;
        for (int seed = 3; seed < 7; seed++) {
            sum += drawsBelow(seed, 0, 3, 5);
        }
        CHECK.fine("73 mean", y.mean(3, 4), y);
        CHECK.same("73 the mean of four", y.top() * 4, sum * y.bottom());
        CHECK.same("73 fashions stay", y.told(5), 4);
        CHECK.refused("72 mean is no live", y.lived(0), y, 6);
        CHECK.fine("73 the last is 9,999", y.mean(9990, 10), y);
        CHECK.refused("73 the last above", y.mean(9991, 10), y, 1);
        CHECK.fine("73 9,999", y.mean(9999, 1), y);
        CHECK.refused("73 10,000", y.mean(10000, 1), y, 1);
        CHECK.refused("73 -1", y.mean(-1, 1), y, 1);
        CHECK.refused("73 0", y.mean(0, 0), y, 1);
        CHECK.refused("73 11", y.mean(0, 11), y, 1);
        CHECK.refused("73 wraps round", y.mean(Integer.MAX_VALUE, 10), y, 1);
        SlowWorlds none = Check.under(STILL);
        CHECK.refused("73 no YEARS", none.mean(0, 1), none, 6);
        CHECK.refused("73 many first", none.mean(0, 11), none, 1);
    }

    private static void marks() {
        SlowWorlds x = with("week 2;");
        CHECK.refused("75 none", x.back(), x, 6);
        x.order(0);
        CHECK.fine("74 mark", x.mark(), x, 1);
        x.tray(0, 0, 1);
        x.write(0, 0, 7);
        x.wear(0, 1);
        x.order(1);
        x.live(0);
        CHECK.fine("74 mark", x.mark(), x, 2);
        CHECK.same("19 arrives under the old sky", x.arrives(0, 0, 1), 2);
        Check.sky(x, "rock q far 9 round 1 at 0;rock r far 4 round 1 at 0;rock s far 1 round 1 at 0;law last;");
        Check.years(x, "week 7;week 1;");
        CHECK.same("19 arrives under the new sky", x.arrives(0, 0, 1), 5);
        CHECK.fine("74 mark", x.mark(), x, 3);
        CHECK.refused("74 one too many", x.mark(), x, 4);
        x.pass(9);
        CHECK.fine("75 back", x.back(), x, 2);
        CHECK.same("75 week", x.told(3), 0);
        CHECK.same("75 law", x.told(2), 1);
        CHECK.same("75 years", x.live(0), 2);
        CHECK.fine("75 back", x.back(), x, 1);
        CHECK.same("75 the old sky", x.rock(1, 4), 20);
        CHECK.same("75 its ice", x.told(1), 2);
        CHECK.same("75 its week", x.told(3), 2);
        CHECK.same("75 its orders", x.told(4), 2);
        CHECK.same("75 as heard", x.heard(1, 2), 5);
        CHECK.same("75 its fashions", x.wore(0, 0), 1);
        CHECK.same("19 arrives under the old sky again", x.arrives(0, 0, 1), 2);
        CHECK.same("21 sees under the old sky again", x.sees(2, 1, 400), 19);
        CHECK.same("75 its years", x.live(0), 1);
        CHECK.fine("75 back", x.back(), x, 0);
        CHECK.same("75 week", x.told(3), 0);
        CHECK.same("75 orders", x.told(4), 1);
        CHECK.same("75 fashions", x.told(5), 4);
        CHECK.refused("75 none more", x.back(), x, 6);
        CHECK.same("75 trays are no part of it", x.read(0, 0), 7);
        CHECK.same("75 nor is what was lived", x.lived(1), 2);
        CHECK.fine("74 mark", x.mark(), x, 1);
    }
}
