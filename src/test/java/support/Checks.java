import java.util.NoSuchElementException;

/** What the tests share: telling a text, comparing answers, and ending with exit code 1 if one was wrong. */
final class Checks {
    private static int wrong = 0;
    private static int asked = 0;

    private Checks() {
    }

    static void due(String call, long got, long want) {
        asked++;
        if (got != want) {
            wrong++;
            if (wrong <= 40) {
                System.out.println(call + " answered " + got + ", due is " + want);
            }
        }
    }

    static void due(String call, boolean got, boolean want) {
        due(call, got ? 1 : 0, want ? 1 : 0);
    }

    /** A call that must be refused: its answer, then TROUBLE. */
    static void refused(LastLatch x, String call, long got, long want, int why) {
        due(call, got, want);
        due("trouble() behind " + call, x.trouble(), why);
    }

    static void refused(LastLatch x, String call, long got, int why) {
        refused(x, call, got, LastLatch.NONE, why);
    }

    static void refused(LastLatch x, String call, boolean got, int why) {
        refused(x, call, got ? 1 : 0, 0, why);
    }

    /** A call that must not be refused. */
    static void granted(LastLatch x, String call, long got, long want) {
        due(call, got, want);
        due("trouble() behind " + call, x.trouble(), 0);
    }

    static void granted(LastLatch x, String call, boolean got) {
        granted(x, call, got ? 1 : 0, 1);
    }

    /** A boundary case: the answer, then what trouble() says; where() has no place, since 4 isn't the reason. */
    static void edge(LastLatch x, String call, long got, long want, int why) {
        due(call, got, want);
        due("trouble() behind " + call, x.trouble(), why);
        due("where() behind " + call, x.where(), LastLatch.NONE);
    }

    static void edge(LastLatch x, String call, boolean got, boolean want, int why) {
        edge(x, call, got ? 1 : 0, want ? 1 : 0, why);
    }

    /** Everything that can be told of NOW by single answers: it must be the same behind a refused call. */
    static String picture(LastLatch x) {
        StringBuilder all = new StringBuilder();
        for (int what = 0; what <= 12; what++) {
            all.append(x.size(what)).append(' ');
        }
        for (int d = 0; d < x.size(1); d++) {
            for (int what = 0; what <= 5; what++) {
                all.append(x.door(d, what)).append(' ');
            }
        }
        for (int p = 0; p < x.size(2); p++) {
            for (int what = 0; what <= 4; what++) {
                all.append(x.person(p, what)).append(' ');
            }
        }
        return all.append(x.fault()).toString();
    }

    static void same(String call, String before, LastLatch x) {
        due("all is as it was behind " + call, before.equals(picture(x)), true);
    }

    static void throwsNoSuch(String call, LastLatch x, int i) {
        boolean thrown = false;
        try {
            x.led(i);
        } catch (NoSuchElementException e) {
            thrown = true;
        }
        due(call + " throws", thrown, true);
    }

    /** Feeds a text, padded with blanks to whole feeds. */
    static void feed(LastLatch x, byte[] text) {
        for (int at = 0; at < text.length; at += 20) {
            int[] five = new int[5];
            for (int i = 0; i < 20; i++) {
                int next = at + i < text.length ? text[at + i] & 255 : ' ';
                five[i / 4] = five[i / 4] << 8 | next;
            }
            x.feed(five[0], five[1], five[2], five[3], five[4]);
        }
    }

    static byte[] bytes(String text) {
        byte[] all = new byte[text.length()];
        for (int i = 0; i < all.length; i++) {
            all[i] = (byte) text.charAt(i);
        }
        return all;
    }

    static int tell(LastLatch x, String text) {
        feed(x, bytes(text));
        return x.lane(text.length());
    }

    static LastLatch told(String text) {
        LastLatch x = new LastLatch();
        if (tell(x, text) < 1) {
            due("lane of " + text + " (fault " + x.fault() + " at " + x.where() + ")", -1, 1);
        }
        return x;
    }

    static void finish() {
        System.out.println(wrong == 0 ? "all " + asked + " answers are as due"
            : wrong + " of " + asked + " answers are not as due");
        if (wrong != 0 || asked == 0) {
            System.exit(1);
        }
    }
}
