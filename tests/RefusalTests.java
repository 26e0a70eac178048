import java.util.function.Supplier;

/**
 * Block 5: a refused call gives NONE or false, has its STATUS, and changes nothing else. Each row is done by one of
 * two objects with the same past; all that can be seen of the two must be the same behind it.
 * Which numbers can be is looked at for each number of each call: the last that are fine, the first that aren't.
 */
public final class RefusalTests {
    private static final Check CHECK = new Check();

    /** ROUND 1: all stand still. LIGHT: a-b 2, a-c 5, b-c 5. */
    private static final String STILL = "rock a far 0 round 1 at 0 price 10;rock b far 2 round 1 at 0 rank 3 price 20 swing 2;"
            + "rock c far 5 round 1 at 6 rank 3 price 30 swing 1 wears;ice a c from 0 to 9;ice c b from 20 to 400;law rank;";
    private static final String TAPED = "rock p far 9 round 3 at 1;rock q far 8 ";
    private static final String MANY_BLANKS = " ".repeat(320);

    public static void main(String[] args) {
        numbersOfAll();
        numbersOfTexts();
        itself();
        withoutRocks();
        trays();
        noneSuch();
        tooMany();
        firstThatHolds();
        faults();
        questionsChangeNothing();
        CHECK.end();
    }

    /** Three ROCKS, WEEK 5, two ORDERS (0 by a in 0, 1 by c in 5), YEARS, a MARK, TRAYS 0 to 2, 40 bytes on the tape. */
    private static Face rich() {
        Face face = new Face().sky(STILL).years("week 2;chance 7;order b;");
        face.does("order 0", "mark", "live 9", "back", "pass 3", "wear 0 1", "pass 2", "order 2", "mark", "meanPrice 1 0 2");
        face.does("wear 1 1", "tray 0 1 5", "tray 1 1 3", "tray 2 2 3", "write 0 0 11", "write 0 4 15", "write 2 2 501", "write 1 0 -1");
        face.does("feed 0 0 0 0 0", "sky 1");
        return face.feeds(TAPED);
    }

    /** As rich, with all that there may be: 20 ORDERS, 3 MARKS, WEEK 400, a full tape. */
    private static Face full() {
        Face face = new Face().sky("rock a far 0 round 1 at 0;rock b far 2 round 1 at 0 wears;").years("order a;wear b 0;");
        face.does("mark", "pass 99", "pass 99", "mark", "pass 99", "live 1", "pass 99", "mark", "pass 4");
        for (int order = 1; order < 20; order++) {
            face.does("order " + order % 2);
        }
        return face.feeds(" ".repeat(900));
    }

    private static Face fresh() {
        return new Face();
    }

    private static Face alone() {
        return new Face().sky("rock a far 3 round 7 at 2 price 3;").does("pass 4", "mark", "order 0").feeds(TAPED);
    }

    /** Two ROCKS that never hear of each other. */
    private static Face iced() {
        return new Face().sky("rock a far 0 round 1 at 0;rock b far 3 round 1 at 0;ice a b from 0 to 400;")
                .does("order 0", "pass 9", "order 1", "mark").feeds(TAPED);
    }

    private static void refused(Supplier<Face> state, String row, int status) {
        Face face = state.get();
        CHECK.same(row + " answers", face.call(row), Face.refusal(row));
        CHECK.same(row + " status", face.x.status(), status);
        CHECK.sameText(row + " changes nothing else", face.all(true), state.get().all(true));
    }

    /** A number that can be: the STATUS is another one than 1. */
    private static void canBe(Supplier<Face> state, String row) {
        Face face = state.get();
        face.call(row);
        CHECK.isTrue(row + " can be, is " + face.x.status(), face.x.status() != 1);
    }

    /** Each number of a row that can be is put to its least, its most, and beyond: "direction 0:0/2 9:0/500" is direction(0, 9). */
    private static void numbers(Supplier<Face> state, String row) {
        String[] words = row.split(" ");
        for (int i = 1; i < words.length; i++) {
            String[] range = words[i].contains(":") ? words[i].split(":")[1].split("/") : new String[0];
            if (range.length > 0) {
                canBe(state, with(words, i, range[0]));
                refused(state, with(words, i, String.valueOf(Long.parseLong(range[0]) - 1)), 1);
                refused(state, with(words, i, "min"), 1);
            }
            if (range.length > 1) {
                canBe(state, with(words, i, range[1]));
                refused(state, with(words, i, String.valueOf(Long.parseLong(range[1]) + 1)), 1);
                refused(state, with(words, i, "max"), 1);
            }
        }
        canBe(state, with(words, 0, words[0]));
    }

    private static String with(String[] words, int at, String number) {
        StringBuilder row = new StringBuilder();
        for (int i = 0; i < words.length; i++) {
            row.append(i == 0 ? "" : " ").append(i == at ? number : words[i].split(":")[0]);
        }
        return row.toString();
    }

    private static void numbersOfAll() {
        String[] rows = {
            "tray 3:0/3 1:0/3 6:0/60", "write 1:0/3 0 5", "read 1:0/3 0", "pour 0:0/3 0:0 1:0/3 0:0 2:0",
            "told 3:0/5", "rock 1:0/2 4:0/5", "ice 1:0/1 2:0/3",
            "direction 1:0/2 7:0/500", "light 0:0/2 7:0/500 1:0/2 9:0/500", "iced 0:0/1 2:1/2 7:0/400", "iced 2:1/2 0:0/1 7",
            "arrives 0:0/2 11:0/400 1:0/2", "ship 0:0/2 7:0/400 1:0/2", "sees 0:0/2 1:0/2 30:0/400", "nearest 1:0/2 7:0/400",
            "meetings 0:0/1 2:1/2 3:0/3 3:3/400", "meetings 2:1/2 0:0/1 3 3", "meetings 0 1 7:0/400 400", "span 7:0/500", "stale 0:0/2 1:0/2 30:0/400",
            "blind 1:0/2", "closest 0:0/1 2:1/2 7:0/400 5:0/40", "closest 2:1/2 0:0/1 7 5",
            "knows 0:0/2 11:0/400 1:0/2", "teller 0:0/2 11:0/400 1:0/2", "hops 0:0/2 11:0/400 1:0/2",
            "knowing 0:0/2 11:0/400 40:0/500", "overtaken 0:0/2 7:0/400", "early 0:0/2 7:0/400 0:0/3", "latest 0:0/2 7:0/400",
            "centre 7:0/400", "cutOff 0:0/2 7:0/400", "hearsBack 0:0/2 7:0/400", "remote 7:0/400",
            "order 1:0/2", "given 1:0/1 1:0/1", "heard 1:0/1 1:0/2", "rules 0:0/2 7:0/500", "ruled 1:0/1 7:0/500",
            "before 0:0 1:1/1 0:0/2", "before 1:1/1 0:0 1:0/2", "oneForAll 0:0 1:1/1", "oneForAll 1:1/1 0:0", "peace 7:0/500",
            "kth 0:0/2 0:0", "reign 1:0/1 1:0/2",
            "echo 0:0/1 11:0/400 2:1/2", "echo 2:1/2 11 0:0/1", "answered 0:0/1 2:1/2 40:0/500", "answered 2:1/2 0:0/1 40", "joint 0:0/1 3:1/7", "confirmed 0:0/1 2:1/7",
            "sure 0:0/1 0:0/1 2:1/2", "sure 0 2:1/2 0:0/1", "cheap 0:0/2 11:0/400 1:0/2 40:0/460",
            "price 1:0/2 7:0/500", "priceSeen 0:0/2 1:0/2 30:0/400", "gain 0:0/1 7:0/400 2:1/2", "gain 2:1/2 7 0:0/1", "hoped 0:0/1 30:0/400 2:1/2", "hoped 2:1/2 30 0:0/1",
            "market 1:0/2 7:0/400", "meanPrice 1:0/2 7:0/7 7:7/500", "meanPrice 1 3:0/500 500",
            "pass 7:1/99", "wore 1:0/2 3:0/5", "wear 1:0/2 1:0/1", "fashion 0:0/1 2:1/2", "fashion 2:1/2 0:0/1", "follows 0:0/1 2:1/2", "follows 2:1/2 0:0/1", "model 1:0/2",
            "changes 1:0/2", "live 7:0/9999", "lived 1:0/4", "mean 7:0/9999 1:1/10", "mean 9990 10:1/10", "mean 9991 9:1/9"};
        for (String row : rows) {
            numbers(RefusalTests::rich, row);
        }
    }

    private static void numbersOfTexts() {
        numbers(RefusalTests::rich, "sky 26:0/40");
        refused(RefusalTests::rich, "years 41", 1);
        refused(RefusalTests::rich, "years -1", 1);
        Supplier<Face> long320 = () -> rich().does("sky 0", "mark").feeds(MANY_BLANKS);
        numbers(long320, "years 300:0/300");
        refused(long320, "sky 321", 1);
        refused(RefusalTests::fresh, "sky 1", 1);
        refused(RefusalTests::fresh, "years 1", 1);
        refused(RefusalTests::full, "sky 901", 1);
        refused(RefusalTests::full, "years 301", 1);
        refused(RefusalTests::full, "years 900", 1);
    }

    /** One and itself, where the document says so; where it doesn't, it can be. */
    private static void itself() {
        String[] not = {"iced 1 1 7", "meetings 1 1 0 7", "closest 1 1 0 40", "before 1 1 0", "before 0 0 0", "oneForAll 1 1",
            "echo 1 7 1", "answered 1 1 40", "sure 0 1 1", "gain 1 7 1", "hoped 1 7 1", "fashion 1 1", "follows 1 1"};
        for (String row : not) {
            refused(RefusalTests::rich, row, 1);
        }
        String[] fine = {"light 1 7 1 9", "arrives 1 7 1", "ship 1 7 1", "sees 1 1 7", "stale 1 1 7", "knows 1 7 1", "hops 1 7 1",
            "heard 1 2", "priceSeen 1 1 7", "cheap 1 7 1 7"};
        for (String row : fine) {
            canBe(RefusalTests::rich, row);
        }
    }

    private static void withoutRocks() {
        String[] rows = {"rock 0 0", "ice 0 0", "direction 0 0", "light 0 0 0 0", "iced 0 1 0", "arrives 0 0 0", "ship 0 0 0",
            "sees 0 0 0", "nearest 0 0", "meetings 0 1 0 0", "stale 0 0 0", "blind 0", "closest 0 1 0 0", "knows 0 0 0",
            "teller 0 0 0", "hops 0 0 0", "knowing 0 0 0", "overtaken 0 0", "early 0 0 0", "latest 0 0", "cutOff 0 0",
            "hearsBack 0 0", "order 0", "given 0 0", "heard 0 0", "rules 0 0", "ruled 0 0", "before 0 1 0", "oneForAll 0 1",
            "kth 0 0", "reign 0 0", "echo 0 0 1", "answered 0 1 0", "joint 0 1", "confirmed 0 1", "sure 0 0 1", "cheap 0 0 0 0",
            "price 0 0", "priceSeen 0 0 0", "gain 0 0 1", "hoped 0 0 1", "market 0 0", "meanPrice 0 0 0", "wore 0 0", "wear 0 0",
            "fashion 0 1", "follows 0 1", "model 0", "changes 0"};
        for (String row : rows) {
            refused(RefusalTests::fresh, row, 1);
        }
        // A SKY of no ROCKS in place of one with some: those are gone.
        Supplier<Face> emptied = () -> rich().does("sky 0");
        for (String row : rows) {
            refused(emptied, row, 1);
        }
    }

    private static void trays() {
        for (int tray = 0; tray < 4; tray++) {
            refused(RefusalTests::fresh, "read " + tray + " 0", 2);
            refused(RefusalTests::fresh, "write " + tray + " 0 1", 2);
            refused(RefusalTests::fresh, "pour " + tray + " 0 " + tray + " 0 0", 2);
        }
        refused(RefusalTests::rich, "read 3 0", 2);
        refused(RefusalTests::rich, "write 3 0 1", 2);
        refused(RefusalTests::rich, "pour 3 0 0 0 1", 2);
        refused(RefusalTests::rich, "pour 0 0 3 0 1", 2);
        refused(RefusalTests::rich, "early 0 0 3", 2);
        String[] noPlace = {"read 0 5", "read 0 -1", "read 0 min", "read 0 max", "write 0 5 1", "write 0 -1 1", "write 0 min 1",
            "write 0 max 1", "pour 0 0 1 0 4", "pour 0 3 1 0 3", "pour 0 0 1 1 3", "pour 0 6 1 0 0", "pour 0 0 1 4 0",
            "pour 0 0 0 1 5", "pour 0 1 0 0 5", "pour 0 max 1 0 1", "pour 0 0 1 max 1", "pour 0 1 1 1 max", "pour 0 max 0 max max"};
        for (String row : noPlace) {
            refused(RefusalTests::rich, row, 3);
        }
        Supplier<Face> ofNone = () -> rich().does("tray 3 0 0");
        refused(ofNone, "read 3 0", 3);
        refused(ofNone, "write 3 0 0", 3);
        refused(ofNone, "early 0 0 3", 3);
        refused(() -> rich().does("tray 3 0 2"), "early 0 0 3", 3);
        refused(RefusalTests::rich, "pour 0 0 2 0 1", 8);
        refused(RefusalTests::rich, "pour 2 0 0 0 0", 8);
        refused(RefusalTests::rich, "early 0 0 2", 5);
        refused(RefusalTests::rich, "early 0 0 1", 5);
        refused(() -> rich().does("write 1 0 0", "write 1 1 501"), "early 0 0 1", 5);
        canBe(() -> rich().does("write 1 0 0", "write 1 1 500"), "early 0 0 1");
    }

    private static void noneSuch() {
        String[] rows = {"arrives 0 9 2", "arrives 2 20 1", "sees 1 0 1", "sees 2 0 14", "stale 1 0 1", "closest 0 1 0 1",
            "closest 0 2 400 4", "knows 2 396 1", "teller 2 396 1", "hops 2 396 1", "teller 1 7 1", "latest 2 396",
            "hearsBack 2 396", "rules 0 4", "kth 0 2", "kth 0 max", "echo 0 9 2", "echo 1 15 2", "echo 0 399 1",
            "answered 0 1 3", "answered 0 2 19", "confirmed 0 4", "sure 0 2 0", "cheap 0 0 2 6", "cheap 0 7 0 6", "priceSeen 1 0 1",
            "hoped 1 1 0"};
        Supplier<Face> other = () -> rich().does("back", "back").feeds(TAPED);
        for (String row : rows) {
            Supplier<Face> state = row.equals("rules 0 4") ? () -> new Face().sky(STILL).does("pass 5", "order 0") : RefusalTests::rich;
            refused(state, row, 6);
        }
        refused(other, "back", 6);
        String[] fresh = {"centre 0", "remote 0", "peace 0", "live 0", "lived 0", "mean 0 1", "back"};
        for (String row : fresh) {
            refused(RefusalTests::fresh, row, 6);
        }
        String[] alone = {"nearest 0 0", "market 0 0", "model 0", "live 0", "lived 4", "mean 9999 1", "hearsBack 0 0",
            "teller 0 0 0", "rules 0 3", "kth 0 1"};
        for (String row : alone) {
            refused(RefusalTests::alone, row, 6);
        }
        String[] iced = {"centre 0", "heard 0 1", "heard 1 0", "joint 0 2", "joint 1 3", "confirmed 0 2", "sure 0 0 1",
            "sure 0 1 0", "peace 0", "peace 500", "fashion 0 1", "fashion 1 0", "cheap 0 0 1 460", "answered 0 1 500", "kth 0 1",
            "knows 0 400 1", "latest 0 0", "hoped 0 400 1", "priceSeen 0 1 400", "stale 0 1 400", "sees 0 1 400"};
        for (String row : iced) {
            refused(RefusalTests::iced, row, 6);
        }
        // Three that never hear of each other: the third KNOWS neither of the two ORDERS.
        Supplier<Face> three = () -> new Face().sky("rock a far 0 round 1 at 0;rock b far 3 round 1 at 0;rock c far 3 round 1 at 0;"
                + "ice a b from 0 to 400;ice a c from 0 to 400;ice b c from 0 to 400;").does("order 0", "order 1");
        refused(three, "before 0 1 2", 6);
        refused(() -> rich().does("sky 0", "mark"), "live 0", 6);
    }

    private static void tooMany() {
        refused(RefusalTests::full, "order 0", 4);
        refused(RefusalTests::full, "order 1", 4);
        refused(RefusalTests::full, "mark", 4);
        refused(RefusalTests::full, "pass 1", 4);
        refused(RefusalTests::full, "pass 99", 4);
        Supplier<Face> in302 = () -> new Face().sky(STILL).does("pass 99", "pass 99", "pass 99", "pass 5");
        refused(in302, "pass 99", 4);
        canBe(in302, "pass 98");
        Face full = full();
        CHECK.same("9 a full tape", full.call("feed 1 2 3 4 5"), -1);
        CHECK.sameText("9 stays as it is", full.all(true), full().all(true));
    }

    /** Where several hold, the first of them counts. */
    private static void firstThatHolds() {
        refused(RefusalTests::full, "order 2", 1);
        refused(RefusalTests::full, "order -1", 1);
        refused(RefusalTests::full, "pass 100", 1);
        refused(RefusalTests::full, "pass 0", 1);
        refused(RefusalTests::fresh, "centre 401", 1);
        refused(RefusalTests::fresh, "remote -1", 1);
        refused(RefusalTests::fresh, "peace 501", 1);
        refused(RefusalTests::fresh, "live 10000", 1);
        refused(RefusalTests::fresh, "lived 5", 1);
        refused(RefusalTests::fresh, "mean 0 11", 1);
        refused(RefusalTests::fresh, "read 4 -1", 1);
        refused(RefusalTests::fresh, "write -1 99 0", 1);
        refused(RefusalTests::fresh, "read 3 99", 2);
        refused(RefusalTests::fresh, "write 3 -1 0", 2);
        refused(RefusalTests::alone, "nearest 0 401", 1);
        refused(RefusalTests::alone, "market 0 401", 1);
        refused(RefusalTests::rich, "pour 3 -1 2 9 9", 1);
        refused(RefusalTests::rich, "pour 3 9 2 -1 9", 1);
        refused(RefusalTests::rich, "pour 3 9 2 9 -1", 1);
        refused(RefusalTests::rich, "pour 3 9 4 9 9", 1);
        refused(RefusalTests::rich, "pour 3 99 2 99 99", 2);
        refused(RefusalTests::rich, "pour 2 99 3 99 99", 2);
        refused(RefusalTests::rich, "pour 2 99 0 99 99", 8);
        refused(RefusalTests::rich, "early 3 0 3", 1);
        refused(RefusalTests::rich, "early 0 401 3", 1);
        refused(() -> rich().does("tray 3 0 2", "write 3 0 -1"), "early 0 0 3", 3);
        refused(RefusalTests::rich, "arrives 0 401 2", 1);
        refused(RefusalTests::rich, "mean 9991 10", 1);
        refused(RefusalTests::rich, "mean 9999 2", 1);
        refused(RefusalTests::rich, "mean max max", 1);
        refused(RefusalTests::rich, "meanPrice 1 8 7", 1);
        refused(RefusalTests::rich, "meetings 0 1 8 7", 1);
        refused(RefusalTests::rich, "joint 0 15", 1);
        refused(RefusalTests::rich, "confirmed 0 15", 1);
    }

    /** With 9 the tape is empty, fault() tells; all else stays. */
    private static void faults() {
        for (String name : new String[] {"sky", "years"}) {
            for (int n : new int[] {1, 17, 39}) {
                Face face = rich();
                CHECK.same(name + " " + n + " answers", face.call(name + " " + n), -1);
                CHECK.same(name + " " + n + " status", face.x.status(), 9);
                boolean first = name.equals("years");
                CHECK.same(name + " " + n + " fault", face.call("fault 0"), 2);
                CHECK.same(name + " " + n + " place", face.call("fault 1"), first ? 0 : n == 17 ? 13 : n == 39 ? 39 : 0);
                CHECK.same(name + " " + n + " the tape is empty", face.call("feed 0 0 0 0 0"), 20);
                CHECK.sameText(name + " " + n + " changes nothing else", face.all(false), rich().all(false));
            }
        }
    }

    /** Calls that only ask leave all as it is, too (the FRACTION but for those that tell one). */
    private static void questionsChangeNothing() {
        String[] rows = {"told 3", "rock 1 4", "ice 1 2", "direction 1 7", "light 0 7 1 9", "iced 0 2 7", "arrives 0 11 1",
            "ship 0 7 1", "sees 0 1 30", "nearest 1 7", "meetings 0 1 3 3", "span 7", "stale 0 1 30", "blind 1", "closest 0 1 7 5",
            "knows 0 11 1", "teller 0 11 1", "hops 0 11 1", "knowing 0 11 40", "overtaken 0 7", "latest 0 7", "centre 7",
            "cutOff 0 7", "hearsBack 0 7", "remote 7", "given 1 1", "heard 1 1", "rules 0 7", "ruled 1 7", "before 0 1 0",
            "oneForAll 0 1", "disputes", "peace 7", "kth 0 0", "reign 1 1", "idle", "echo 0 11 1", "answered 0 1 40", "joint 0 3",
            "confirmed 0 2", "sure 0 0 1", "cheap 0 11 1 40", "price 1 7", "priceSeen 0 1 30", "gain 0 7 1", "hoped 0 30 1",
            "market 1 7", "wore 1 3", "fashion 0 1", "follows 0 1", "model 1", "changes 1", "uniform", "lived 1", "read 0 4",
            "fault 0", "fault 1", "status", "top", "bottom"};
        for (String row : rows) {
            Face face = rich();
            face.call(row);
            CHECK.sameText(row + " changes nothing", face.all(true), rich().all(true));
        }
        Face face = rich();
        CHECK.same("73 mean", face.call("mean 3 10"), 1);
        String behind = face.all(true);
        CHECK.sameText("73 all stays as it is", behind.substring(behind.indexOf('\n')), withoutFraction(rich()));
    }

    private static String withoutFraction(Face face) {
        String all = face.all(true);
        return all.substring(all.indexOf('\n'));
    }
}
