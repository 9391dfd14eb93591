/** Promises 26 to 28: which doors to nail, and one who wants in against one who keeps out. */
public final class NailTest {
    public static void main(String[] args) {
        nails();
        nailsOfThree();
        leastOfLikeCount();
        in();
        keptOut();
        byHimself();
        nothingToo();
        refusals();
        Checks.finish();
    }

    private static void nails() {
        LastLatch x = Checks.told("lane drafts 0;door a plain;door b plain;person p");
        // to a's: by a at once, or by b, which leads there too: both
        Checks.granted(x, "nails(0, 0)", x.nails(0, 0), 3);
        // to b's: b must have been opened and shut first, then either: b alone is enough
        Checks.granted(x, "nails(0, 1)", x.nails(0, 1), 2);
        x.nail(1);
        Checks.granted(x, "nails(0, 0)", x.nails(0, 0), 1);
        // nailed already: nothing more
        Checks.granted(x, "nails(0, 1)", x.nails(0, 1), 0);
        // he is there, or an open door leads there
        LastLatch y = Checks.told("lane drafts 0;door a plain;door b plain;last b;ajar a b;person p;person q;inside q a");
        Checks.granted(y, "nails(0, 1)", y.nails(0, 1), -2);
        Checks.granted(y, "nails(1, 0)", y.nails(1, 0), -2);
        // q comes out of a's once a was shut last; into b's only if b is opened and shut behind that
        Checks.granted(y, "nails(1, 1)", y.nails(1, 1), 2);
        Checks.due("door(0, 3)", y.door(0, 3), 0);
    }

    private static void nailsOfThree() {
        // a ROOM is led to once its door was opened and shut; a's, shut last at first, by each door
        LastLatch x = Checks.told("lane drafts 0;door a plain;door b plain;door c plain;person p");
        Checks.granted(x, "nails(0, 2)", x.nails(0, 2), 4);
        Checks.granted(x, "nails(0, 1)", x.nails(0, 1), 2);
        Checks.granted(x, "nails(0, 0)", x.nails(0, 0), 7);
        // nobody can let him out
        LastLatch y = Checks.told("lane drafts 0;door a plain;door b plain;last a;ajar b a;person p;inside p b");
        Checks.granted(y, "nails(0, 0)", y.nails(0, 0), 0);
    }

    private static void leastOfLikeCount() {
        // q comes to b's by a alone and then both opened: nailing either is enough, and a's bit is less
        LastLatch x = Checks.told("lane drafts 0;door a plain;door b heavy;last b;person p;person q;inside q a");
        Checks.granted(x, "nails(0, 0)", x.nails(0, 0), 1);
        Checks.granted(x, "nails(0, 1)", x.nails(0, 1), 1);
        Checks.granted(x, "nails(1, 1)", x.nails(1, 1), 1);
    }

    /** The doors a and b, both shut, a last; p seeks, q keeps out. OPEN 0 1, SHUT 2 3, GO p 4 5, GO q 6 7. */
    private static void in() {
        LastLatch x = Checks.told("lane drafts 0;door a plain;door b plain;person p;person q;inside q b");
        // q is shut in and can do nothing
        Checks.granted(x, "gets(0, 0, 0)", x.gets(0, 0, 0), 0);
        Checks.granted(x, "gets(0, 0, 1)", x.gets(0, 0, 1), 0);
        Checks.granted(x, "gets(0, 0, 2)", x.gets(0, 0, 2), 0);
        Checks.granted(x, "gets(0, 0, 3)", x.gets(0, 0, 3), 1);
        Checks.granted(x, "opensWith(0, 0, 3)", x.opensWith(0, 0, 3), 0);
        Checks.granted(x, "gets(0, 0, 4)", x.gets(0, 0, 4), 1);
        // each is asked by itself, whatever was asked before
        Checks.granted(x, "gets(1, 1, 0)", x.gets(1, 1, 0), 1);
        Checks.granted(x, "opensWith(0, 0, 3)", x.opensWith(0, 0, 3), 0);
        // he is there already: nothing does, too
        Checks.granted(x, "gets(1, 1, 1)", x.gets(1, 1, 1), 1);
        Checks.granted(x, "opensWith(1, 1, 1)", x.opensWith(1, 1, 1), -2);
    }

    private static void keptOut() {
        LastLatch x = Checks.told("lane drafts 0;door a plain;person p;person q");
        // p opens, q shuts: he doesn't come in
        Checks.granted(x, "gets(0, 0, 3)", x.gets(0, 0, 3), 0);
        Checks.granted(x, "opensWith(0, 0, 3)", x.opensWith(0, 0, 3), -2);
        x.open(0);
        Checks.granted(x, "gets(0, 0, 1)", x.gets(0, 0, 1), 1);
        Checks.granted(x, "opensWith(0, 0, 1)", x.opensWith(0, 0, 1), 2);
        Checks.granted(x, "gets(0, 0, 2)", x.gets(0, 0, 2), 1);
        // by a stuck door q can't help it
        LastLatch y = Checks.told("lane drafts 0;door a stuck;person p;person q");
        Checks.granted(y, "gets(0, 0, 3)", y.gets(0, 0, 3), 1);
        Checks.granted(y, "opensWith(0, 0, 3)", y.opensWith(0, 0, 3), 0);
        Checks.granted(y, "gets(0, 0, 4)", y.gets(0, 0, 4), 1);
    }

    private static void byHimself() {
        // a heavy door takes two, and there the other one doesn't count
        LastLatch x = Checks.told("lane drafts 0;door a heavy;person p;person q");
        Checks.due("can(0)", x.can(0), 1);
        Checks.granted(x, "gets(0, 0, 3)", x.gets(0, 0, 3), 0);
        // nor the other one's key
        LastLatch y = Checks.told("lane drafts 0;door a stuck;locked a;person p;person q;key q");
        Checks.granted(y, "gets(0, 0, 3)", y.gets(0, 0, 3), 0);
        Checks.granted(y, "gets(1, 0, 3)", y.gets(1, 0, 3), 1);
        Checks.granted(y, "opensWith(1, 0, 3)", y.opensWith(1, 0, 3), 0);
        y.nail(0);
        Checks.granted(y, "gets(1, 0, 3)", y.gets(1, 0, 3), 0);
    }

    private static void nothingToo() {
        // a stuck door is open: he may wait and go in with his third move
        LastLatch x = Checks.told("lane drafts 0;door a stuck;door b plain;last b;ajar a b;person p;person q");
        Checks.granted(x, "gets(0, 1, 3)", x.gets(0, 1, 3), 1);
        Checks.granted(x, "opensWith(0, 1, 3)", x.opensWith(0, 1, 3), -2);
        Checks.granted(x, "opensWith(0, 1, 1)", x.opensWith(0, 1, 1), 4);
        Checks.granted(x, "opensWith(0, 1, 2)", x.opensWith(0, 1, 2), 4);
        // he must be there behind the moves, not only on the way
        LastLatch y = Checks.told("lane drafts 0;door a plain;person p;person q;inside p a");
        Checks.granted(y, "gets(0, 0, 4)", y.gets(0, 0, 4), 1);
    }

    private static void refusals() {
        LastLatch x = Checks.told("lane drafts 0;door a plain;person p;person q");
        for (int bad : new int[] {-1, 2, Integer.MAX_VALUE, Integer.MIN_VALUE}) {
            Checks.refused(x, "nails(" + bad + ", 0)", x.nails(bad, 0), 1);
            Checks.refused(x, "gets(" + bad + ", 0, 9)", x.gets(bad, 0, 9), 1);
            Checks.refused(x, "opensWith(" + bad + ", 0, 1)", x.opensWith(bad, 0, 1), 1);
        }
        for (int bad : new int[] {-1, 1, Integer.MAX_VALUE, Integer.MIN_VALUE}) {
            Checks.refused(x, "nails(0, " + bad + ")", x.nails(0, bad), 1);
            Checks.refused(x, "gets(0, " + bad + ", 1)", x.gets(0, bad, 1), 1);
            Checks.refused(x, "opensWith(0, " + bad + ", 9)", x.opensWith(0, bad, 9), 1);
        }
        for (int bad : new int[] {-1, 5, Integer.MAX_VALUE, Integer.MIN_VALUE}) {
            Checks.refused(x, "gets(0, 0, " + bad + ")", x.gets(0, 0, bad), 2);
            Checks.refused(x, "opensWith(0, 0, " + bad + ")", x.opensWith(0, 0, bad), 2);
        }
        Checks.refused(x, "opensWith(0, 0, 0)", x.opensWith(0, 0, 0), 2);
        LastLatch y = Checks.told("lane drafts 0;door a plain;person p");
        Checks.refused(y, "gets(0, 0, 1)", y.gets(0, 0, 1), 1);
        Checks.refused(y, "opensWith(0, 0, 1)", y.opensWith(0, 0, 1), 1);
        Checks.granted(y, "nails(0, 0)", y.nails(0, 0), 1);
    }
}
