import java.nio.charset.StandardCharsets;
import java.util.Arrays;

/** What the tests share: counts wrong answers, feeds texts. */
final class Check {
    private int asked = 0;
    private int wrong = 0;

    void same(String what, long got, long due) {
        asked++;
        if (got != due) {
            wrong++;
            System.out.println(what + " answered " + got + ", due is " + due);
        }
    }

    void isTrue(String what, boolean got) {
        same(what, got ? 1 : 0, 1);
    }

    void sameText(String what, String got, String due) {
        asked++;
        if (!got.equals(due)) {
            wrong++;
            String[] ours = got.split("\n");
            String[] theirs = due.split("\n");
            int at = 0;
            while (at < Math.min(ours.length, theirs.length) - 1 && ours[at].equals(theirs[at])) {
                at++;
            }
            System.out.println(what + ": " + ours[at] + ", due is " + theirs[at]);
        }
    }

    /** A call that is refused: it gives NONE (or false, told as 0) and that STATUS. */
    void refused(String what, long got, SlowWorlds x, int status) {
        same(what, got, SlowWorlds.NONE);
        same(what + " status", x.status(), status);
    }

    void refused(String what, boolean got, SlowWorlds x, int status) {
        isTrue(what + " is false", !got);
        same(what + " status", x.status(), status);
    }

    /** An answer with STATUS 0. */
    void fine(String what, long got, SlowWorlds x, long due) {
        same(what, got, due);
        same(what + " status", x.status(), 0);
    }

    void fine(String what, boolean got, SlowWorlds x) {
        isTrue(what, got);
        same(what + " status", x.status(), 0);
    }

    void end() {
        System.out.println(asked + " looked at, " + wrong + " wrong");
        if (wrong != 0) {
            System.exit(1);
        }
    }

    static int feed(SlowWorlds x, String text) {
        byte[] bytes = text.getBytes(StandardCharsets.ISO_8859_1);
        for (int at = 0; at < bytes.length; at += 20) {
            byte[] five = Arrays.copyOfRange(bytes, at, at + 20);
            int[] words = new int[5];
            for (int i = 0; i < 20; i++) {
                words[i / 4] = words[i / 4] << 8 | five[i] & 255;
            }
            x.feed(words[0], words[1], words[2], words[3], words[4]);
        }
        return bytes.length;
    }

    static int sky(SlowWorlds x, String text) {
        return x.sky(feed(x, text));
    }

    static int years(SlowWorlds x, String text) {
        return x.years(feed(x, text));
    }

    static SlowWorlds under(String text) {
        SlowWorlds x = new SlowWorlds();
        sky(x, text);
        return x;
    }
}
