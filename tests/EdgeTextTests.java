import java.util.ArrayList;
import java.util.List;

/** Promises 9 to 15 and the texts of blocks 1 and 4: TOKENS, PARTS, STEPS, FAULTS; each sentence that names an edge. */
public final class EdgeTextTests {
    private static final Check CHECK = new Check();
    private static final String[] KEYWORDS = ("rock far round at rank price swing wears ice from to law first last sent week wear "
            + "order chance when rules in loop end stop").split(" ");
    private static final String ROCK = " far 1 round 1 at 0;";
    private static final String AB = "rock a" + ROCK + "rock b" + ROCK;

    public static void main(String[] args) {
        tapeOfBytes();
        firstBytesAreTheText();
        longestSky();
        longestYears();
        faultOfTheLatest();
        everyByte();
        blanks();
        tokensAsLongAsTheyGo();
        numbersOfFourDigits();
        namesOfEightLetters();
        namesThatAreNone();
        namesThatAreNearlyNone();
        namesDiffer();
        numbersOfRocks();
        perhapsParts();
        partsInOtherOrder();
        everyTokenOfParts();
        ices();
        iceNames();
        lawIsToldOnce();
        sixRocksEightIces();
        leastKindOfOneToken();
        firstAlongTheText();
        skyInPlaceOfThatAhead();
        everyTokenOfSteps();
        numbersOfSteps();
        thirtySteps();
        threeDeep();
        ends();
        namesOfYears();
        yearsInPlaceOfThoseAhead();
        CHECK.end();
    }

    private static void takes(String text, int rocks) {
        SlowWorlds x = new SlowWorlds();
        CHECK.fine("10 " + text, Check.sky(x, text), x, rocks);
        CHECK.same("12 no FAULT in " + text, x.fault(0), 0);
        CHECK.same("12 no place in " + text, x.fault(1), -1);
    }

    private static void faults(String text, int kind, int place) {
        SlowWorlds x = Check.under("rock old far 7 round 1 at 0;");
        CHECK.refused("10 " + text, Check.sky(x, text), x, 9);
        CHECK.same("12 FAULT of " + text, x.fault(0), kind);
        CHECK.same("12 place in " + text, x.fault(1), place);
        CHECK.fine("10 the old one stays: " + text, x.rock(0, 0), x, 7);
    }

    private static void takesYears(String text, int steps) {
        SlowWorlds x = Check.under(AB);
        CHECK.fine("11 " + text, Check.years(x, text), x, steps);
        CHECK.same("12 no FAULT in " + text, x.fault(0), 0);
        CHECK.same("12 no place in " + text, x.fault(1), -1);
    }

    private static void faultsYears(String text, int kind, int place) {
        SlowWorlds x = Check.under(AB);
        Check.years(x, "stop;");
        CHECK.refused("11 " + text, Check.years(x, text), x, 9);
        CHECK.same("12 FAULT of " + text, x.fault(0), kind);
        CHECK.same("12 place in " + text, x.fault(1), place);
        CHECK.fine("11 the old ones stay: " + text, x.live(0), x, 1);
    }

    /** 9: twenty bytes, the highest of each int first; NONE if there would be more than 900. */
    private static void tapeOfBytes() {
        SlowWorlds x = new SlowWorlds();
        // "rock", " a f", "ar 9", " rou", "nd 8"; " at ", "7;" and blanks.
        CHECK.same("9 20", x.feed(0x726f636b, 0x20612066, 0x61722039, 0x20726f75, 0x6e642038), 20);
        CHECK.same("9 40", x.feed(0x20617420, 0x373b2020, 0x20202020, 0x20202020, 0x20202020), 40);
        CHECK.fine("9 the highest byte first", x.sky(40), x, 1);
        CHECK.same("9 FAR", x.rock(0, 0), 9);
        CHECK.same("9 ROUND", x.rock(0, 1), 8);
        CHECK.same("9 AT", x.rock(0, 2), 7);
        for (int fed = 1; fed <= 45; fed++) {
            CHECK.same("9 to 900", x.feed(-1, -1, -1, -1, -1), fed * 20);
        }
        CHECK.same("9 more than 900", x.feed(-1, -1, -1, -1, -1), -1);
        CHECK.refused("9 900 are there still, of a byte that is no TOKEN", x.sky(900), x, 9);
        CHECK.same("12 at the first", x.fault(1), 0);
        CHECK.same("9 empty then", x.feed(-1, -1, -1, -1, -1), 20);
    }

    /** 10: the first n bytes, behind which may stand what will; the tape is empty then; with 1 it stays. */
    private static void firstBytesAreTheText() {
        SlowWorlds x = new SlowWorlds();
        Check.feed(x, "law last;!!!!!!!!!!!");
        CHECK.refused("10 more than the tape has", x.sky(21), x, 1);
        CHECK.refused("10 below 0", x.sky(-1), x, 1);
        CHECK.refused("11 more than the tape has", x.years(21), x, 1);
        CHECK.fine("10 the first nine", x.sky(9), x, 0);
        CHECK.same("10 law", x.told(2), 1);
        CHECK.refused("10 the tape is empty then", x.sky(1), x, 1);
        Check.feed(x, "law last;!!!!!!!!!!!");
        CHECK.refused("10 one more", x.sky(10), x, 9);
        CHECK.same("12 at it", x.fault(1), 9);
        CHECK.refused("10 the tape is empty with 9, too", x.sky(1), x, 1);
        Check.feed(x, "law last;!!!!!!!!!!!");
        CHECK.refused("10 one less", x.sky(8), x, 9);
        CHECK.same("12 the text's length, not the tape's", x.fault(1), 8);
        Check.feed(x, "law sent;           ");
        CHECK.fine("10 n 0 takes nothing", x.sky(0), x, 0);
        CHECK.same("10 law first without", x.told(2), 0);
        CHECK.refused("10 and empties the tape", x.years(1), x, 1);
        Check.feed(x, "stop;!!!!!!!!!!!!!!!");
        CHECK.fine("11 the first five", x.years(5), x, 1);
        CHECK.refused("11 the tape is empty then", x.years(1), x, 1);
        Check.feed(x, "stop;!!!!!!!!!!!!!!!");
        CHECK.refused("11 one more", x.years(6), x, 9);
        CHECK.refused("11 the tape is empty with 9, too", x.sky(1), x, 1);
    }

    /** Terms: a TEXT of at most 900 bytes. */
    private static void longestSky() {
        String start = "rock a far 1 round 1 at 0";
        takes(start + " ".repeat(899 - start.length()) + ";", 1);
        takes(" ".repeat(900), 0);
        takes("\n".repeat(900), 0);
        faults(start + " ".repeat(900 - start.length()), 2, 900);
        faults(start + ";" + " ".repeat(898 - start.length()) + "<", 2, 899);
        faults(start + ";" + " ".repeat(898 - start.length()) + "!", 1, 899);
        faults("a".repeat(900), 2, 0);
        faults("1".repeat(900), 1, 0);
        faults(";".repeat(900), 2, 0);
    }

    /** Terms: YEARS are a TEXT of at most 300 bytes; 11: above 300 is 1. */
    private static void longestYears() {
        takesYears("stop" + " ".repeat(295) + ";", 1);
        takesYears(" ".repeat(300), 0);
        faultsYears("stop;" + " ".repeat(294) + "!", 1, 299);
        faultsYears("stop" + " ".repeat(296), 2, 300);
        faultsYears("a".repeat(300), 2, 0);
        SlowWorlds x = Check.under(AB);
        Check.feed(x, "stop" + " ".repeat(295) + ";" + " ".repeat(20));
        CHECK.refused("11 301", x.years(301), x, 1);
        CHECK.refused("11 320", x.years(320), x, 1);
        CHECK.refused("11 no YEARS yet", x.live(0), x, 6);
        CHECK.fine("11 300, the tape was kept", x.years(300), x, 1);
        CHECK.fine("11 they are there", x.live(0), x, 1);
    }

    /** 12: of the latest sky() or years() with STATUS 0 or 9; NONE for others, and ahead of any. */
    private static void faultOfTheLatest() {
        SlowWorlds x = new SlowWorlds();
        CHECK.refused("10 1", x.sky(1), x, 1);
        CHECK.same("12 1 doesn't count", x.fault(0), -1);
        Check.sky(x, "law");
        CHECK.same("12 of sky()", x.fault(0), 2);
        CHECK.same("12 of sky()", x.fault(1), 3);
        x.sky(99);
        x.years(301);
        x.told(0);
        x.mark();
        x.back();
        CHECK.same("12 stays", x.fault(0), 2);
        CHECK.same("12 stays", x.fault(1), 3);
        CHECK.same("12 NONE for others", x.fault(2), -1);
        CHECK.same("12 NONE for others", x.fault(-1), -1);
        CHECK.same("12 NONE for others", x.fault(Integer.MIN_VALUE), -1);
        CHECK.same("12 NONE for others", x.fault(Integer.MAX_VALUE), -1);
        Check.years(x, "week 0;");
        CHECK.same("12 of years()", x.fault(0), 4);
        CHECK.same("12 of years()", x.fault(1), 5);
        Check.years(x, "week 1;");
        CHECK.same("12 without one", x.fault(0), 0);
        CHECK.same("12 without one", x.fault(1), -1);
    }

    /** 1: no TOKEN begins so. Small letters, digits, ; < > = begin one, 10 and 32 are blanks; no other byte. */
    private static void everyByte() {
        for (int b = 0; b < 256; b++) {
            String sign = String.valueOf((char) b);
            boolean begins = b >= 'a' && b <= 'z' || b >= '0' && b <= '9' || ";<>=".contains(sign);
            if (b == 10 || b == 32) {
                takes(sign, 0);
                takesYears(sign, 0);
            } else {
                faults(sign, begins ? 2 : 1, 0);
                faultsYears(sign, begins ? 2 : 1, 0);
                faults("law first;" + sign, begins ? 2 : 1, 10);
                faults("law " + sign, begins ? 2 : 1, 4);
                faultsYears("stop;" + sign, begins ? 2 : 1, 5);
            }
            if (b == 10 || b == 32 || begins) {
                continue;
            }
            faults("rock a" + sign + ROCK, 1, 6);
            faults("rock a far 1" + sign, 1, 12);
            faultsYears("week 1" + sign, 1, 6);
        }
    }

    private static void blanks() {
        takes("\n law\n\n first \n;  \n", 0);
        takes("law first ; rock a far 1 round 1 at 0 ;", 1);
        faults("law\tfirst;", 1, 3);
        faults("law\rfirst;", 1, 3);
        faults("law" + (char) 0 + "first;", 1, 3);
        faults("law" + (char) 160 + "first;", 1, 3);
        faults("ro ck a", 2, 0);
        faults("rock a far 1 0 round 1 at 0;", 2, 13);
        faults("  law  ", 2, 7);
    }

    /** TOKENS, as long as they go. */
    private static void tokensAsLongAsTheyGo() {
        takes("rock a far1round1at0rank1price1swing1wears;law last;", 1);
        faults("rocka far 1", 2, 0);
        faults("lawlast;", 2, 0);
        faults("rock afar 1 round 1", 2, 10);
        faults("rock a far 1 round 1 atat 0;", 2, 21);
        takes("rock a far 1 round 12at 0;", 1);
        faults("rock a1far 1", 2, 6);
        faults("rock a far 1 round 1 at 0wearsrank 1;", 2, 25);
        takesYears("week1;loop2;end;when week<1;end;when week>1;end;wear a1;", 5);
        faultsYears("weeks 1;", 2, 0);
        faultsYears("when week<<1;end;", 2, 10);
        faultsYears("when week<=1;end;", 2, 10);
    }

    /** NUMBERS (1 to 4 digits); a NUMBER of 5 digits and more is FAULT 1, at its first. */
    private static void numbersOfFourDigits() {
        takes("rock a far 0 round 1 at 0;", 1);
        takes("rock a far 00 round 01 at 00;", 1);
        takes("rock a far 000 round 001 at 000;", 1);
        takes("rock a far 0020 round 0099 at 0011 rank 0009 price 0099 swing 0020;", 1);
        faults("rock a far 00020 round 1 at 0;", 1, 11);
        faults("rock a far 9999 round 1 at 0;", 4, 11);
        faults("rock a far 10000 round 1 at 0;", 1, 11);
        faults("rock a far 99999999999999999999 round 1 at 0;", 1, 11);
        faults("rock a far 4294967296 round 1 at 0;", 1, 11);
        faults("0000", 2, 0);
        faults("00000", 1, 0);
        faultsYears("week 0001;week 00001;", 1, 15);
        faultsYears("when week=0400;when week=00400;", 1, 25);
    }

    /** NAME: a WORD of 1 to 8 letters; one of 9 and more is FAULT 2. */
    private static void namesOfEightLetters() {
        for (int letters = 1; letters <= 40; letters++) {
            String name = "q".repeat(letters);
            if (letters <= 8) {
                takes("rock " + name + ROCK, 1);
                faults(AB + "ice " + name + " a from 0 to 0;", 3, AB.length() + 4);
            } else {
                faults("rock " + name + ROCK, 2, 5);
                faults(AB + "ice " + name + " a from 0 to 0;", 2, AB.length() + 4);
                faults(AB + "ice a " + name + " from 0 to 0;", 2, AB.length() + 6);
                faultsYears("order " + name + ";", 2, 6);
                faultsYears("wear " + name + " 1;", 2, 5);
            }
        }
        takes("rock zzzzzzzz" + ROCK + "rock aaaaaaaa" + ROCK + "ice aaaaaaaa zzzzzzzz from 0 to 0;", 2);
    }

    /** .. that is none of these 25. */
    private static void namesThatAreNone() {
        CHECK.same("25 WORDS", KEYWORDS.length, 25);
        for (String word : KEYWORDS) {
            faults("rock " + word + ROCK, 2, 5);
            faults(AB + "ice " + word + " a from 0 to 0;", 2, AB.length() + 4);
            faults(AB + "ice a " + word + " from 0 to 0;", 2, AB.length() + 6);
            faultsYears("order " + word + ";", 2, 6);
            faultsYears("wear " + word + " 1;", 2, 5);
            faultsYears("when wears " + word + ";end;", 2, 11);
            faultsYears("when rules " + word + " in a;end;", 2, 11);
            faultsYears("when rules a in " + word + ";end;", 2, 16);
        }
    }

    private static void namesThatAreNearlyNone() {
        for (String word : KEYWORDS) {
            String longer = word + "z";
            String shorter = word.substring(0, word.length() - 1);
            takes("rock " + longer + ROCK, 1);
            takes("rock " + (shorter.equals("wear") ? "wea" : shorter) + ROCK, 1);
            faults(longer + " a" + ROCK, 2, 0);
        }
        for (String word : new String[] {"none", "rocks", "years", "sky", "light", "ship", "begin", "rule", "fars"}) {
            takes("rock " + word + ROCK, 1);
        }
    }

    /** No two ROCKS have one NAME (3, at the NAME). */
    private static void namesDiffer() {
        takes("rock a" + ROCK + "rock aa" + ROCK + "rock aaa" + ROCK + "rock b" + ROCK + "rock ba" + ROCK + "rock ab" + ROCK, 6);
        takes("rock abcdefgh" + ROCK + "rock abcdefgi" + ROCK + "rock bbcdefgh" + ROCK + "rock abcdefg" + ROCK, 4);
        faults(AB + "rock a" + ROCK, 3, AB.length() + 5);
        faults(AB + "rock b", 3, AB.length() + 5);
        String long8 = "rock abcdefgh" + ROCK;
        faults(long8 + long8, 3, long8.length() + 5);
        faults(AB + "law first; rock   a;", 3, AB.length() + 18);
    }

    /** FAR 0 to 20, ROUND 1 to 99, AT 0 to 11, RANK 0 to 9, PRICE 0 to 99, SWING 0 to 20. */
    private static void numbersOfRocks() {
        String[] words = {"far", "round", "at", "rank", "price", "swing"};
        int[] least = {0, 1, 0, 0, 0, 0};
        int[] most = {20, 99, 11, 9, 99, 20};
        for (int what = 0; what < 6; what++) {
            for (int number = 0; number <= 130; number++) {
                StringBuilder text = new StringBuilder("rock a");
                int place = 0;
                for (int w = 0; w < 6; w++) {
                    text.append(" ").append(words[w]).append(" ");
                    place = w == what ? text.length() : place;
                    text.append(w == what ? number : 1);
                }
                text.append(";");
                if (number < least[what] || number > most[what]) {
                    faults(text.toString(), 4, place);
                } else {
                    SlowWorlds x = Check.under(text.toString());
                    for (int w = 0; w < 6; w++) {
                        CHECK.fine("14 " + text, x.rock(0, w), x, w == what ? number : 1);
                    }
                }
            }
        }
    }

    /** [ ] perhaps: rank, price, swing (behind price alone), wears; 0 and the old fashion without. */
    private static void perhapsParts() {
        for (int parts = 0; parts < 12; parts++) {
            boolean ranked = parts % 2 == 1;
            int priced = parts / 2 % 3;
            boolean worn = parts / 6 == 1;
            String text = "rock a far 3 round 5 at 7" + (ranked ? " rank 9" : "") + (priced > 0 ? " price 98" : "")
                    + (priced > 1 ? " swing 19" : "") + (worn ? " wears" : "") + ";";
            SlowWorlds x = new SlowWorlds();
            CHECK.fine("10 " + text, Check.sky(x, text), x, 1);
            int[] due = {3, 5, 7, ranked ? 9 : 0, priced > 0 ? 98 : 0, priced > 1 ? 19 : 0};
            for (int what = 0; what < 6; what++) {
                CHECK.fine("14 " + text, x.rock(0, what), x, due[what]);
            }
            CHECK.fine("13 " + text, x.told(5), x, worn ? 1 : 0);
        }
        // What one ROCK has is not the next one's.
        SlowWorlds x = Check.under("rock a far 3 round 5 at 7 rank 9 price 98 swing 19 wears;rock b far 4 round 6 at 8;");
        int[] due = {4, 6, 8, 0, 0, 0};
        for (int what = 0; what < 6; what++) {
            CHECK.fine("14 the next one", x.rock(1, what), x, due[what]);
        }
        CHECK.fine("13 the first alone", x.told(5), x, 1);
    }

    private static void partsInOtherOrder() {
        String start = "rock a far 1 round 1 at 0 ";
        int n = start.length();
        faults(start + "swing 1;", 2, n);
        faults(start + "price 1 rank 1;", 2, n + 8);
        faults(start + "wears rank 1;", 2, n + 6);
        faults(start + "wears wears;", 2, n + 6);
        faults(start + "rank 1 rank 1;", 2, n + 7);
        faults(start + "price 1 price 1;", 2, n + 8);
        faults(start + "price 1 swing 1 swing 1;", 2, n + 16);
        faults(start + "rank 1 swing 1;", 2, n + 7);
        faults(start + "wears 1;", 2, n + 6);
        faults("rock a round 1 far 1 at 0;", 2, 7);
        faults("rock a far 1 at 0 round 1;", 2, 13);
        faults("rock far 1 round 1 at 0;", 2, 5);
        faults("far 1;", 2, 0);
        faults("ice from 0 to 1;", 2, 4);
    }

    /** Each TOKEN of a text in turn is left out with all behind it, and put to what can't stand there. */
    private static void everyToken(String head, String text, boolean years) {
        List<Integer> places = new ArrayList<>();
        String[] tokens = text.split(" ");
        int at = head.length();
        for (String token : tokens) {
            places.add(at);
            at += token.length() + 1;
        }
        String whole = head + text;
        for (int i = 0; i < tokens.length; i++) {
            int place = places.get(i);
            String ahead = whole.substring(0, place);
            String behind = whole.substring(place + tokens[i].length());
            faultsEither(ahead + "!" + behind, 1, place, years);
            faultsEither(ahead + "12345" + behind, 1, place, years);
            faultsEither(ahead + (tokens[i].matches("[<>=]") ? ";" : "<") + behind, 2, place, years);
            faultsEither(ahead + (tokens[i].matches("[0-9]+") ? "a" : "1") + behind, 2, place, years);
            if (years && !tokens[i].equals(";")) {
                faultsYears(ahead + ";" + behind, 2, place);
            }
            if (i > 0) {
                faultsEither(ahead, 2, place, years);
                faultsEither(ahead.trim(), 2, ahead.trim().length(), years);
            }
            if (tokens[i].matches("[0-9]+")) {
                faultsEither(ahead + "9999" + behind, 4, place, years);
            }
        }
    }

    private static void faultsEither(String text, int kind, int place, boolean years) {
        if (years) {
            faultsYears(text, kind, place);
        } else {
            faults(text, kind, place);
        }
    }

    private static void everyTokenOfParts() {
        everyToken("", "rock c far 1 round 2 at 3 rank 4 price 5 swing 6 wears ;", false);
        everyToken(AB, "rock c far 1 round 2 at 3 ;", false);
        everyToken(AB, "ice a b from 1 to 2 ;", false);
        everyToken("", "law sent ;", false);
        everyToken(AB, "law rank ;", false);
    }

    /** ICE: from a WEEK to another one (0 to 400, not sooner). */
    private static void ices() {
        int n = AB.length();
        takes(AB + "ice a b from 0 to 0;ice a b from 0 to 400;ice b a from 400 to 400;ice a b from 7 to 7;", 2);
        faults(AB + "ice a b from 401 to 400;", 4, n + 13);
        faults(AB + "ice a b from 400 to 401;", 4, n + 20);
        faults(AB + "ice a b from 400 to 399;", 4, n + 20);
        faults(AB + "ice a b from 1 to 0;", 4, n + 18);
        faults(AB + "ice a b from 401 to 9;", 4, n + 13);
        SlowWorlds x = Check.under(AB + "ice b a from 3 to 400;ice a b from 0 to 9;");
        int[][] due = {{1, 0, 3, 400}, {0, 1, 0, 9}};
        for (int ice = 0; ice < 2; ice++) {
            for (int what = 0; what < 4; what++) {
                CHECK.fine("15 as they stand", x.ice(ice, what), x, due[ice][what]);
            }
        }
        CHECK.fine("13 two", x.told(1), x, 2);
    }

    /** What a PART names must be told ahead (3); ICE of a ROCK and itself (5, at the second NAME). */
    private static void iceNames() {
        int n = AB.length();
        faults("ice a b from 0 to 1;" + AB, 3, 4);
        faults("rock a" + ROCK + "ice a b from 0 to 1;rock b" + ROCK, 3, 32);
        takes("rock a" + ROCK + "rock b" + ROCK + "ice a b from 0 to 1;rock c" + ROCK + "ice c a from 0 to 1;", 3);
        faults(AB + "ice c a from 0 to 1;rock c" + ROCK, 3, n + 4);
        faults(AB + "ice a a from 0 to 1;", 5, n + 6);
        faults(AB + "ice b b from 999 to 1;", 5, n + 6);
        faults(AB + "ice c c from 0 to 1;", 3, n + 4);
        // The ROCK that stood in the SKY ahead is not told in this one.
        faults("rock a" + ROCK + "ice a old from 0 to 1;", 3, 32);
    }

    /** LAW (first without); law told already is FAULT 5, at that WORD. */
    private static void lawIsToldOnce() {
        String[] laws = {"first", "last", "rank", "sent"};
        for (int law = 0; law < 4; law++) {
            SlowWorlds x = Check.under("law " + laws[law] + ";");
            CHECK.fine("13 " + laws[law], x.told(2), x, law);
            Check.sky(x, "rock a" + ROCK);
            CHECK.fine("13 first without, whatever was ahead", x.told(2), x, 0);
            for (String again : laws) {
                faults("law " + laws[law] + ";law " + again + ";", 5, 5 + laws[law].length());
            }
        }
        for (String word : KEYWORDS) {
            if (!List.of(laws).contains(word)) {
                faults("law " + word + ";", 2, 4);
            }
        }
        faults("law a;", 2, 4);
        faults("law;", 2, 3);
        faults("law first last;", 2, 10);
        faults("law first;" + AB + "law", 5, 10 + AB.length());
    }

    /** ROCKS, at most 6, ICE, at most 8: 6, a seventh rock, a ninth ice, at that WORD. */
    private static void sixRocksEightIces() {
        StringBuilder text = new StringBuilder();
        for (int rocks = 1; rocks <= 6; rocks++) {
            text.append("rock ").append((char) ('a' + rocks - 1)).append(ROCK);
            takes(text.toString(), rocks);
        }
        faults(text + "rock g" + ROCK, 6, text.length());
        faults(text + "rock", 6, text.length());
        faults(text + "rock a", 6, text.length());
        faults(text + "rock 99999", 6, text.length());
        takes(text + "law last;", 6);
        StringBuilder iced = new StringBuilder(text);
        for (int ices = 1; ices <= 8; ices++) {
            iced.append("ice f a from ").append(ices).append(" to 9;");
            SlowWorlds x = Check.under(iced.toString());
            CHECK.fine("13 so many", x.told(1), x, ices);
            CHECK.fine("15 the last", x.ice(ices - 1, 2), x, ices);
            CHECK.refused("15 no more", x.ice(ices, 2), x, 1);
        }
        faults(iced + "ice f a from 0 to 9;", 6, iced.length());
        faults(iced + "ice", 6, iced.length());
        faults(iced + "ice x x", 6, iced.length());
        faults(iced + "rock", 6, iced.length());
        takes(iced + "law last;", 6);
    }

    /** Of one TOKEN the least kind. */
    private static void leastKindOfOneToken() {
        // 1 ahead of 2: five digits where a NAME, a WORD, a SIGN must stand; ahead of 4: where they are too great as well.
        faults("rock 12345", 1, 5);
        faults("rock a 12345", 1, 7);
        faults("rock a far 12345", 1, 11);
        faults("rock a far 1 round 1 at 0 12345", 1, 26);
        // 2 ahead of 3: a WORD of 9 letters, a WORD that is no NAME, are no ROCKS either.
        faults(AB + "ice abcdefghi a", 2, AB.length() + 4);
        faults(AB + "ice rock a", 2, AB.length() + 4);
        // 3 ahead of 5 can't be: a NAME is a ROCK's or not. 6 ahead of 7: a 31st STEP within three others.
        String three = "loop 1;loop 1;loop 1;";
        faultsYears("stop;".repeat(27) + three + "loop", 6, 135 + three.length());
        faultsYears("stop;".repeat(27) + three + "when", 6, 135 + three.length());
        faultsYears("stop;".repeat(26) + three + "loop", 7, 130 + three.length());
        // 2 ahead of 6: what begins no STEP.
        faultsYears("stop;".repeat(30) + "rock", 2, 150);
        faultsYears("stop;".repeat(30) + "12345", 1, 150);
    }

    /** FAULTS, the first along the text. */
    private static void firstAlongTheText() {
        faults("rock a far 21 round 12345", 4, 11);
        faults("rock a far 21 !", 4, 11);
        faults("rock rock !", 2, 5);
        faults(AB + "rock a !", 3, AB.length() + 5);
        faults(AB + "ice a a !", 5, AB.length() + 6);
        faults("law first;law !", 5, 10);
        faults("! rock a far 21", 1, 0);
        faultsYears("week 0 !", 4, 5);
        faultsYears("order x !", 3, 6);
        faultsYears("loop 1;end;end;!", 2, 11);
        faultsYears("loop 1;!", 1, 7);
    }

    /** A SKY that is taken is there in place of that ahead: WEEK 0, no ORDERS, fashions so in WEEK 0, no YEARS. */
    private static void skyInPlaceOfThatAhead() {
        SlowWorlds x = Check.under(AB + "ice a b from 0 to 9;law sent;");
        Check.years(x, "week 1;");
        x.wear(0, 1);
        x.pass(7);
        x.order(1);
        x.tray(0, 0, 1);
        x.write(0, 0, 5);
        x.mark();
        CHECK.fine("10 another one", Check.sky(x, "rock c far 4 round 1 at 0;rock d far 4 round 1 at 0 wears;rock e far 4 round 1 at 0 wears;"), x, 3);
        int[] due = {3, 0, 0, 0, 0, 6};
        for (int what = 0; what < 6; what++) {
            CHECK.fine("13 told " + what, x.told(what), x, due[what]);
        }
        CHECK.fine("64 WEEK 0", x.wore(1, 0), x, 1);
        CHECK.fine("64 WEEK 0", x.wore(0, 0), x, 0);
        CHECK.refused("64 no WEEK 1", x.wore(0, 1), x, 1);
        CHECK.refused("40 no ORDERS", x.given(0, 0), x, 1);
        CHECK.refused("71 no YEARS", x.live(0), x, 6);
        CHECK.fine("18 no ICE", x.iced(0, 1, 5), x, 0);
        CHECK.fine("7 the TRAYS stay", x.read(0, 0), x, 5);
        CHECK.fine("75 the MARK stays", x.back(), x, 0);
        CHECK.fine("75 the old one", x.told(3), x, 7);
        CHECK.fine("75 the old one's ICE", x.iced(0, 1, 5), x, 1);
        CHECK.fine("75 the old one's YEARS", x.live(0), x, 1);
        CHECK.fine("10 the same one again", Check.sky(x, AB), x, 2);
        CHECK.fine("10 WEEK 0 again", x.told(3), x, 0);
        CHECK.fine("10 of nothing", Check.sky(x, ""), x, 0);
        CHECK.fine("10 no ROCKS", x.told(0), x, 0);
        CHECK.refused("10 no ROCKS", x.rock(0, 0), x, 1);
    }

    private static void everyTokenOfSteps() {
        String[] steps = {"week 7 ;", "wear a 1 ;", "order b ;", "chance 9 ;", "stop ;", "when week < 7 ; end ;", "when week > 7 ; end ;",
            "when week = 7 ; end ;", "when wears b ; end ;", "when rules a in b ; end ;", "loop 7 ; end ;", "loop 7 ; week 7 ; end ;"};
        for (String step : steps) {
            takesYears(step, step.startsWith("loop 7 ; week") ? 2 : 1);
            everyToken("", step, true);
            everyToken("order a;", step, true);
            everyToken("loop 3;when wears a;", step + " end ; end ;", true);
        }
    }

    /** week, loop 1 to 99; chance 0 to 16; wear 0, 1; when week 0 to 400. */
    private static void numbersOfSteps() {
        String[] ahead = {"week ", "loop ", "chance ", "wear a ", "when week<", "when week>", "when week="};
        String[] behind = {";", ";end;", ";", ";", ";end;", ";end;", ";end;"};
        int[] least = {1, 1, 0, 0, 0, 0, 0};
        int[] most = {99, 99, 16, 1, 400, 400, 400};
        for (int i = 0; i < ahead.length; i++) {
            for (int number : new int[] {0, 1, 2, 15, 16, 17, 98, 99, 100, 399, 400, 401, 9999}) {
                String text = ahead[i] + number + behind[i];
                if (number < least[i] || number > most[i]) {
                    faultsYears(text, 4, ahead[i].length());
                } else {
                    takesYears(text, 1);
                }
            }
        }
    }

    /** 6: a 31st STEP (at its WORD; end is none). */
    private static void thirtySteps() {
        String[] words = {"week", "wear", "order", "chance", "when", "loop", "stop"};
        for (int steps = 0; steps <= 30; steps++) {
            takesYears("stop;".repeat(steps), steps);
            takesYears("loop9;end;".repeat(steps), steps);
        }
        for (String word : words) {
            faultsYears("stop;".repeat(30) + word, 6, 150);
            faultsYears("loop9;end;".repeat(29) + "stop;" + word.substring(0, 4), word.equals("order") || word.equals("chance") ? 2 : 6, 295);
        }
        faultsYears("stop;".repeat(30) + "end;", 2, 150);
        takesYears("loop 9;" + "stop;".repeat(29) + "end;", 30);
        faultsYears("loop 9;" + "stop;".repeat(29) + "stop;end;", 6, 152);
        faultsYears("loop 9;" + "stop;".repeat(29), 2, 152);
        takesYears("loop9;loop9;loop9;end;end;end;".repeat(10), 30);
    }

    /** 7: a when, loop within three others (at its WORD). */
    private static void threeDeep() {
        String[] opens = {"loop 2;", "when wears a;"};
        for (int kinds = 0; kinds < 16; kinds++) {
            String three = opens[kinds & 1] + opens[kinds >> 1 & 1] + opens[kinds >> 2 & 1];
            takesYears(three + "week 1;end;end;end;", 4);
            takesYears(three + "end;" + opens[kinds >> 3] + "end;end;end;", 4);
            faultsYears(three + opens[kinds >> 3] + "end;end;end;end;", 7, three.length());
            faultsYears(three + "week 1;" + opens[kinds >> 3].substring(0, 4), 7, three.length() + 7);
        }
        takesYears("loop 1;loop 1;loop 1;end;end;end;loop 1;loop 1;loop 1;end;end;end;", 6);
    }

    /** An end without a beginning; the text's end ahead of an end: 2. */
    private static void ends() {
        faultsYears("end;", 2, 0);
        faultsYears("end", 2, 0);
        faultsYears("stop;end;", 2, 5);
        faultsYears("loop 1;end;end;", 2, 11);
        faultsYears("loop 1;loop 1;end;end;end;", 2, 22);
        faultsYears("loop 1;", 2, 7);
        faultsYears("loop 1; \n ", 2, 10);
        faultsYears("loop 1;loop 1;end;", 2, 18);
        faultsYears("when wears a;stop;", 2, 18);
        faultsYears("loop 1;end", 2, 10);
        faultsYears("loop 1;end ", 2, 11);
        faultsYears("loop 1;end end;", 2, 11);
    }

    /** 3: a NAME that is no ROCK (of the SKY that is there). */
    private static void namesOfYears() {
        String[] texts = {"order x;", "wear x 1;", "when wears x;end;", "when rules x in a;end;", "when rules a in x;end;"};
        for (String text : texts) {
            faultsYears(text, 3, text.indexOf('x'));
        }
        takesYears("order b;order a;when rules a in a;end;when rules b in b;end;", 4);
        SlowWorlds x = Check.under(AB);
        Check.sky(x, "rock c" + ROCK);
        CHECK.refused("11 a is no ROCK any more", Check.years(x, "order a;"), x, 9);
        CHECK.same("12 3", x.fault(0), 3);
        CHECK.fine("11 c is", Check.years(x, "order c;"), x, 1);
        SlowWorlds none = new SlowWorlds();
        CHECK.refused("11 without ROCKS", Check.years(none, "order a;"), none, 9);
        CHECK.same("12 3", none.fault(0), 3);
        CHECK.fine("11 without ROCKS", Check.years(none, "week 1;chance 3;when week=1;loop 9;stop;end;end;"), none, 5);
    }

    private static void yearsInPlaceOfThoseAhead() {
        SlowWorlds x = Check.under(AB);
        CHECK.refused("71 none at first", x.live(0), x, 6);
        CHECK.fine("11 three", Check.years(x, "wear a 1;wear a 0;wear a 1;"), x, 3);
        CHECK.fine("71 three", x.live(0), x, 3);
        CHECK.fine("11 one", Check.years(x, "week 1;"), x, 1);
        CHECK.fine("71 one", x.live(0), x, 1);
        CHECK.refused("11 a FAULT", Check.years(x, "wear a 1;wear b 1;wear"), x, 9);
        CHECK.fine("71 the old one", x.live(0), x, 1);
        CHECK.fine("71 the old one", x.told(3), x, 2);
        CHECK.fine("11 of nothing", Check.years(x, ""), x, 0);
        CHECK.fine("71 nothing is done", x.live(0), x, 0);
    }
}
