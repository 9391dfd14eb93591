/** Promises 6 to 12, 45 and 46: what is so NOW, which STEPS can be done, and what was told. */
public final class NowTest {
    private static final String FULL = "lane drafts 30;door a plain;door b spring;door c heavy;door d stuck;"
        + "person p;person q;inside q c;key q;home p d;home q a;wants p lane;seen q lane;seen p b;"
        + "locked a;locked c;last c;ajar b c;ajar d d";

    public static void main(String[] args) {
        doors();
        people();
        steps();
        heavyAndLocked();
        shutting();
        lookingIn();
        leading();
        sizes();
        Checks.finish();
    }

    private static void doors() {
        LastLatch x = Checks.told(FULL);
        int[][] due = {{0, 0, 1, 0, 0, 0}, {1, 3, 0, 0, 0, 0}, {2, 0, 1, 0, 2, 1}, {3, 4, 0, 0, 0, 0}};
        for (int d = 0; d < 4; d++) {
            for (int what = 0; what < 6; what++) {
                Checks.granted(x, "door(" + d + ", " + what + ")", x.door(d, what), due[d][what]);
            }
        }
        Checks.refused(x, "door(-1, 0)", x.door(-1, 0), 1);
        Checks.refused(x, "door(4, 0)", x.door(4, 0), 1);
        Checks.refused(x, "door(0, -1)", x.door(0, -1), 1);
        Checks.refused(x, "door(0, 6)", x.door(0, 6), 1);
        Checks.granted(x, "last()", x.last(), 2);
        // without a LINE that says so, the first one was shut last
        LastLatch y = Checks.told("lane drafts 0;door a plain;door b plain");
        Checks.granted(y, "last()", y.last(), 0);
        Checks.granted(y, "door(0, 5)", y.door(0, 5), 1);
        Checks.granted(y, "door(1, 5)", y.door(1, 5), 0);
        // KIND NOW, and nails
        y.spring(1);
        y.nail(1);
        Checks.granted(y, "door(1, 0)", y.door(1, 0), 1);
        Checks.granted(y, "door(1, 3)", y.door(1, 3), 1);
    }

    private static void people() {
        LastLatch x = Checks.told(FULL);
        int[][] due = {{0, 0, 4, 0, 2}, {3, 1, 1, -2, 0}};
        for (int p = 0; p < 2; p++) {
            for (int what = 0; what < 5; what++) {
                Checks.granted(x, "person(" + p + ", " + what + ")", x.person(p, what), due[p][what]);
            }
        }
        Checks.refused(x, "person(2, 0)", x.person(2, 0), 1);
        Checks.refused(x, "person(-1, 0)", x.person(-1, 0), 1);
        Checks.refused(x, "person(0, 5)", x.person(0, 5), 1);
        Checks.refused(x, "person(0, -1)", x.person(0, -1), 1);
        LastLatch y = Checks.told("lane drafts 0;door a plain;person p");
        Checks.granted(y, "person(0, 2)", y.person(0, 2), -2);
        Checks.granted(y, "person(0, 3)", y.person(0, 3), -2);
        Checks.granted(y, "person(0, 4)", y.person(0, 4), -2);
        Checks.refused(y, "person(1, 0)", y.person(1, 0), 1);
    }

    private static void steps() {
        LastLatch x = Checks.told(FULL);
        // p is in the lane without a key: a is locked, c is heavy, d is stuck; b can be shut, gone through by both
        int[] due = {0, 0, 0, 0, 0, 1, 0, 0, 0, 1, 0, 1, 0, 1, 0, 0};
        int count = 0;
        for (int step = 0; step < 16; step++) {
            Checks.granted(x, "can(" + step + ")", x.can(step), due[step]);
            count += due[step];
        }
        Checks.granted(x, "choices()", x.choices(), count);
        Checks.refused(x, "can(16)", x.can(16), 1);
        Checks.refused(x, "can(-1)", x.can(-1), 1);
        LastLatch y = Checks.told("lane drafts 0;door a plain");
        Checks.granted(y, "choices()", y.choices(), 0);
        Checks.granted(y, "can(1)", y.can(1), 0);
        Checks.refused(y, "can(2)", y.can(2), 1);
    }

    private static void heavyAndLocked() {
        LastLatch x = Checks.told("lane drafts 0;door h heavy;door l plain;door both heavy;locked l;locked both;"
            + "person p;person q;key p;inside p l");
        // q alone, without a key
        Checks.due("can(0)", x.can(0), 0);
        Checks.due("can(1)", x.can(1), 0);
        Checks.due("can(2)", x.can(2), 0);
        LastLatch y = Checks.told("lane drafts 0;door h heavy;door l plain;door both heavy;locked l;locked both;"
            + "person p;person q;key p");
        Checks.due("can(0)", y.can(0), 1);
        Checks.due("can(1)", y.can(1), 1);
        Checks.due("can(2)", y.can(2), 1);
        LastLatch z = Checks.told("lane drafts 0;door h heavy;door l plain;door both heavy;locked l;locked both;"
            + "person p;person q");
        Checks.due("can(0)", z.can(0), 1);
        Checks.due("can(1)", z.can(1), 0);
        Checks.due("can(2)", z.can(2), 0);
        LastLatch w = Checks.told("lane drafts 0;door h heavy;person p;key p");
        Checks.due("can(0)", w.can(0), 0);
    }

    private static void shutting() {
        // a leads to b's ROOM: who is there can shut it, who is in a's can't
        LastLatch x = Checks.told("lane drafts 0;door a heavy;door b plain;ajar a b;last b;person p;inside p b");
        Checks.due("can(2)", x.can(2), 1);
        Checks.due("can(4)", x.can(4), 1);
        LastLatch y = Checks.told("lane drafts 0;door a heavy;door b plain;ajar a b;last b;person p;inside p a");
        Checks.due("can(2)", y.can(2), 0);
        Checks.due("can(4)", y.can(4), 0);
        Checks.due("choices()", y.choices(), 0);
        // a stuck one can't be shut, but gone through
        LastLatch z = Checks.told("lane drafts 0;door a stuck;ajar a a;person p");
        Checks.due("can(1)", z.can(1), 0);
        Checks.due("can(2)", z.can(2), 1);
    }

    private static void lookingIn() {
        LastLatch x = Checks.told(FULL);
        Checks.granted(x, "seen()", x.seen(), 12);
        Checks.granted(x, "shutIn()", x.shutIn(), 0);
        x.shut(1);
        Checks.granted(x, "seen()", x.seen(), 8);
        Checks.granted(x, "shutIn()", x.shutIn(), 2);
        LastLatch y = Checks.told("lane drafts 0;door a plain;door b plain;ajar a b;ajar b b;person p;person q;"
            + "inside p a;inside q a");
        Checks.granted(y, "seen()", y.seen(), 2);
        Checks.granted(y, "shutIn()", y.shutIn(), 3);
    }

    private static void leading() {
        LastLatch x = Checks.told(FULL);
        int[] due = {5, 9, 11, 13};
        for (int i = 0; i < due.length; i++) {
            Checks.due("led(" + i + ")", x.led(i), due[i]);
        }
        x.open(0);
        Checks.due("trouble()", x.trouble(), 6);
        Checks.throwsNoSuch("led(4)", x, 4);
        Checks.throwsNoSuch("led(-1)", x, -1);
        Checks.throwsNoSuch("led(least)", x, Integer.MIN_VALUE);
        Checks.throwsNoSuch("led(most)", x, Integer.MAX_VALUE);
        Checks.due("trouble() stays", x.trouble(), 6);
        Checks.throwsNoSuch("led(0) without a LANE", new LastLatch(), 0);
    }

    private static void sizes() {
        LastLatch x = Checks.told(FULL);
        int[] due = {30, 4, 2, 2, 2, 1, 1, 2, 1, 2, 0, 0, 0};
        for (int what = 0; what < due.length; what++) {
            Checks.due("size(" + what + ")", x.size(what), due[what]);
        }
        x.shut(1);
        x.image();
        x.feed(1, 2, 3, 4, 5);
        x.door(9, 9);
        // as told, whatever is so NOW
        int[] then = {30, 4, 2, 2, 2, 1, 1, 2, 1, 2, 1, 1, 20};
        for (int what = 0; what < then.length; what++) {
            Checks.due("size(" + what + ")", x.size(what), then[what]);
        }
        Checks.due("size(13)", x.size(13), -1);
        Checks.due("size(-1)", x.size(-1), -1);
        Checks.due("size(least)", x.size(Integer.MIN_VALUE), -1);
        Checks.due("trouble() stays", x.trouble(), 1);
    }
}
