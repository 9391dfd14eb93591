/** The boundary cases of promises 37 to 44: acts, undoing, images, sentence by sentence. */
public final class EdgeActTest {
    private static final int LEAST = Integer.MIN_VALUE;
    private static final int MOST = Integer.MAX_VALUE;
    private static final String ONE = "lane drafts 0;door a plain;person p";

    public static void main(String[] args) {
        numbersOfTheFullLane();
        openNumbers();
        openIsOpen();
        openCantBe();
        shutNumbers();
        shutIsShut();
        shutCantBe();
        goNumbers();
        goIsShut();
        goCant();
        nailNumbers();
        nailIsNailed();
        nailIsOpen();
        nailedForGood();
        springNumbers();
        springHeavyOrStuck();
        springBackAndForth();
        undoNothing();
        undoEachAct();
        sixteenAreKept();
        keptWrapAround();
        refusedActsAreNone();
        threeImages();
        imageNumbers();
        backKeepsImages();
        backLeavesNothingToUndo();
        backToTheWhole();
        imagesBehindUndo();
        withoutALane();
        Checks.finish();
    }

    /** A refused act: its answer, TROUBLE, and that all is as it was. */
    private static void refused(String before, LastLatch x, String call, long got, int why) {
        Checks.edge(x, call, got, -1, why);
        Checks.same(call, before, x);
    }

    private static void refused(String before, LastLatch x, String call, boolean got, int why) {
        Checks.edge(x, call, got, false, why);
        Checks.same(call, before, x);
    }

    /** Four doors and two people: the next number is there none such of, open or shut, in the lane or not. */
    private static void numbersOfTheFullLane() {
        String doors = "lane drafts 0;door a plain;door b plain;door c plain;door d plain;person p;person q";
        for (String rest : new String[] {"", ";inside p d;inside q d", ";last a;ajar b a;ajar c a;ajar d d",
            ";ajar a a;ajar b b;ajar c c;ajar d d;inside q d"}) {
            LastLatch x = Checks.told(doors + rest);
            String before = Checks.picture(x);
            refused(before, x, "open(4)", x.open(4), 1);
            refused(before, x, "shut(4)", x.shut(4), 1);
            refused(before, x, "nail(4)", x.nail(4), 1);
            refused(before, x, "spring(4)", x.spring(4), 1);
            for (int d = -1; d <= 4; d++) {
                refused(before, x, "go(2, " + d + ")", x.go(2, d), 1);
                refused(before, x, "go(-1, " + d + ")", x.go(-1, d), 1);
            }
            refused(before, x, "go(0, 4)", x.go(0, 4), 1);
            refused(before, x, "go(1, 4)", x.go(1, 4), 1);
            refused(before, x, "go(1, -1)", x.go(1, -1), 1);
        }
    }

    // ---- promise 37: "NONE: 1; 5 (it is open); 6 (it can't be)"

    private static void openNumbers() {
        LastLatch x = Checks.told(ONE + ";door b plain");
        String before = Checks.picture(x);
        for (int bad : new int[] {-1, 2, 3, LEAST, MOST}) {
            refused(before, x, "open(" + bad + ")", x.open(bad), 1);
        }
        Checks.edge(x, "open(1)", x.open(1), 1, 0);
    }

    private static void openIsOpen() {
        LastLatch x = Checks.told(ONE + ";door b plain;ajar b b");
        refused(Checks.picture(x), x, "open(1)", x.open(1), 5);
        // open is the reason, though nobody is there, it is heavy, or locked
        LastLatch y = Checks.told("lane drafts 0;door a heavy;locked a;ajar a a");
        refused(Checks.picture(y), y, "open(0), nobody there", y.open(0), 5);
    }

    private static void openCantBe() {
        String[] texts = {"lane drafts 0;door a plain", ONE + ";inside p a", ONE + ";locked a",
            "lane drafts 0;door a heavy;person p", "lane drafts 0;door a heavy;person p;person q;inside q a",
            "lane drafts 0;door a plain;locked a;person p;person q;key q;inside q a"};
        for (String text : texts) {
            LastLatch x = Checks.told(text);
            refused(Checks.picture(x), x, "open(0) of " + text, x.open(0), 6);
        }
        LastLatch nailed = Checks.told(ONE);
        nailed.nail(0);
        refused(Checks.picture(nailed), nailed, "open(0), nailed", nailed.open(0), 6);
        LastLatch two = Checks.told("lane drafts 0;door a heavy;locked a;person p;person q;key q");
        Checks.edge(two, "open(0) by two with a key", two.open(0), 1, 0);
    }

    // ---- promise 38: "false: 1; 5 (it is shut); 6 (it can't be)"

    private static void shutNumbers() {
        LastLatch x = Checks.told(ONE + ";door b plain;ajar a a;ajar b b");
        String before = Checks.picture(x);
        for (int bad : new int[] {-1, 2, 3, LEAST, MOST}) {
            refused(before, x, "shut(" + bad + ")", x.shut(bad), 1);
        }
        Checks.edge(x, "shut(1)", x.shut(1), true, 0);
        Checks.edge(x, "last()", x.last(), 1, 0);
    }

    private static void shutIsShut() {
        LastLatch x = Checks.told(ONE);
        refused(Checks.picture(x), x, "shut(0)", x.shut(0), 5);
        // shut is the reason, though it is stuck and nobody is there
        LastLatch y = Checks.told("lane drafts 0;door a stuck");
        refused(Checks.picture(y), y, "shut(0), stuck", y.shut(0), 5);
        x.nail(0);
        refused(Checks.picture(x), x, "shut(0), nailed", x.shut(0), 5);
    }

    private static void shutCantBe() {
        String[] texts = {"lane drafts 0;door a plain;ajar a a", "lane drafts 0;door a stuck;ajar a a;person p",
            ONE + ";door b plain;last b;ajar a b;inside p a"};
        for (String text : texts) {
            LastLatch x = Checks.told(text);
            refused(Checks.picture(x), x, "shut(0) of " + text, x.shut(0), 6);
        }
        LastLatch inside = Checks.told(ONE + ";door b plain;last b;ajar a b;inside p b");
        Checks.edge(inside, "shut(0) from the ROOM to which it leads", inside.shut(0), true, 0);
        Checks.edge(inside, "shutIn()", inside.shutIn(), 1, 0);
    }

    // ---- promise 39: "NONE: 1; 5 (it is shut); 6 (he can't)"

    private static void goNumbers() {
        LastLatch x = Checks.told(ONE + ";ajar a a");
        String before = Checks.picture(x);
        for (int bad : new int[] {-1, 1, 2, LEAST, MOST}) {
            refused(before, x, "go(" + bad + ", 0)", x.go(bad, 0), 1);
            refused(before, x, "go(0, " + bad + ")", x.go(0, bad), 1);
            refused(before, x, "go(" + bad + ", " + bad + ")", x.go(bad, bad), 1);
        }
        Checks.edge(x, "go(0, 0)", x.go(0, 0), 1, 0);
        Checks.edge(x, "go(0, 0), out again", x.go(0, 0), 0, 0);
        LastLatch nobody = Checks.told("lane drafts 0;door a plain;ajar a a");
        refused(Checks.picture(nobody), nobody, "go(0, 0) of nobody", nobody.go(0, 0), 1);
    }

    private static void goIsShut() {
        LastLatch x = Checks.told(ONE + ";inside p a");
        refused(Checks.picture(x), x, "go(0, 0), shut in", x.go(0, 0), 5);
        LastLatch y = Checks.told(ONE);
        refused(Checks.picture(y), y, "go(0, 0)", y.go(0, 0), 5);
        // no such person is the reason ahead of it
        refused(Checks.picture(y), y, "go(1, 0)", y.go(1, 0), 1);
    }

    private static void goCant() {
        // in a's ROOM, while a leads to b's
        LastLatch x = Checks.told(ONE + ";door b plain;last b;ajar a b;inside p a");
        refused(Checks.picture(x), x, "go(0, 0)", x.go(0, 0), 6);
        LastLatch y = Checks.told(ONE + ";door b plain;last b;ajar a b;inside p b");
        Checks.edge(y, "go(0, 0), out of b's by a", y.go(0, 0), 0, 0);
    }

    // ---- promise 40: "false: 1; 5 (it is nailed); 6 (it is open)"

    private static void nailNumbers() {
        LastLatch x = Checks.told("lane drafts 0;door a plain;door b plain;door c plain;door d plain");
        String before = Checks.picture(x);
        for (int bad : new int[] {-1, 4, 5, 32, LEAST, MOST}) {
            refused(before, x, "nail(" + bad + ")", x.nail(bad), 1);
        }
        for (int d = 3; d >= 0; d--) {
            Checks.edge(x, "nail(" + d + "), nobody there", x.nail(d), true, 0);
        }
    }

    private static void nailIsNailed() {
        LastLatch x = Checks.told(ONE + ";door b plain");
        x.nail(0);
        refused(Checks.picture(x), x, "nail(0)", x.nail(0), 5);
        Checks.edge(x, "nail(1)", x.nail(1), true, 0);
    }

    private static void nailIsOpen() {
        LastLatch x = Checks.told(ONE + ";ajar a a");
        refused(Checks.picture(x), x, "nail(0)", x.nail(0), 6);
        x.shut(0);
        Checks.edge(x, "nail(0), shut", x.nail(0), true, 0);
    }

    /** "NAIL a shut door (for good)": but for UNDO and IMAGES. */
    private static void nailedForGood() {
        LastLatch x = Checks.told(ONE + ";door b plain");
        x.nail(0);
        x.open(1);
        x.shut(1);
        x.spring(0);
        Checks.edge(x, "door(0, 3)", x.door(0, 3), 1, 0);
        Checks.edge(x, "open(0)", x.open(0), -1, 6);
        Checks.edge(x, "can(0)", x.can(0), 0, 0);
        // what was shut LAST can be a nailed one: its ROOM is led to all the same
        LastLatch y = Checks.told(ONE + ";door b plain");
        y.nail(0);
        Checks.edge(y, "open(1)", y.open(1), 1, 0);
    }

    // ---- promise 41: "NONE: 1; 5 (it is heavy or stuck)"

    private static void springNumbers() {
        LastLatch x = Checks.told(ONE + ";door b heavy");
        String before = Checks.picture(x);
        for (int bad : new int[] {-1, 2, 3, LEAST, MOST}) {
            refused(before, x, "spring(" + bad + ")", x.spring(bad), 1);
        }
    }

    private static void springHeavyOrStuck() {
        LastLatch x = Checks.told("lane drafts 0;door a heavy;door b stuck;ajar b b");
        String before = Checks.picture(x);
        refused(before, x, "spring(0), heavy", x.spring(0), 5);
        refused(before, x, "spring(1), stuck", x.spring(1), 5);
    }

    private static void springBackAndForth() {
        LastLatch x = Checks.told("lane drafts 0;door a plain;door b spring;last b;ajar a b;person p");
        Checks.edge(x, "spring(0), open", x.spring(0), 1, 0);
        Checks.edge(x, "spring(1)", x.spring(1), 0, 0);
        Checks.edge(x, "go(0, 0)", x.go(0, 0), 2, 0);
        Checks.edge(x, "door(0, 1), shut behind him", x.door(0, 1), 0, 0);
        Checks.edge(x, "spring(0)", x.spring(0), 0, 0);
        Checks.edge(x, "spring(1)", x.spring(1), 1, 0);
        x.nail(0);
        Checks.edge(x, "spring(0), nailed", x.spring(0), 1, 0);
    }

    // ---- promise 42: "true; false: 6"; "(16 are kept)"

    private static void undoNothing() {
        LastLatch x = Checks.told(ONE);
        refused(Checks.picture(x), x, "undo()", x.undo(), 6);
        x.open(0);
        Checks.edge(x, "undo()", x.undo(), true, 0);
        refused(Checks.picture(x), x, "undo() again", x.undo(), 6);
        Checks.edge(x, "open(0) again", x.open(0), 1, 0);
        Checks.edge(x, "undo()", x.undo(), true, 0);
    }

    /** Each ACT is undone in full, the spring door that shut and LAST, too. */
    private static void undoEachAct() {
        LastLatch x = Checks.told("lane drafts 0;door a spring;door b plain;door c plain;last c;ajar b a;person p;person q;inside q a");
        String[] pictures = new String[7];
        pictures[0] = Checks.picture(x);
        x.open(0);
        pictures[1] = Checks.picture(x);
        x.go(0, 0);
        pictures[2] = Checks.picture(x);
        x.nail(0);
        pictures[3] = Checks.picture(x);
        x.go(1, 1);
        pictures[4] = Checks.picture(x);
        x.shut(1);
        pictures[5] = Checks.picture(x);
        x.spring(1);
        Checks.due("size(10)", x.size(10), 6);
        for (int i = 5; i >= 0; i--) {
            Checks.edge(x, "undo()", x.undo(), true, 0);
            Checks.same("undo() to " + i, pictures[i], x);
        }
        Checks.edge(x, "undo()", x.undo(), false, 6);
    }

    private static void sixteenAreKept() {
        LastLatch x = Checks.told(ONE);
        for (int i = 1; i <= 16; i++) {
            x.spring(0);
            Checks.due("size(10) behind " + i, x.size(10), i);
        }
        LastLatch y = Checks.told(ONE);
        y.open(0);
        for (int i = 1; i <= 16; i++) {
            y.spring(0);
        }
        Checks.due("size(10) behind 17", y.size(10), 16);
        for (int i = 0; i < 16; i++) {
            Checks.edge(x, "undo() of 16", x.undo(), true, 0);
            Checks.edge(y, "undo() of 17", y.undo(), true, 0);
        }
        Checks.edge(x, "undo() of 16", x.undo(), false, 6);
        Checks.edge(y, "undo() of 17", y.undo(), false, 6);
        // the first of the 17 stays done
        Checks.edge(y, "door(0, 1)", y.door(0, 1), 1, 0);
    }

    /** Forty ACTS, some undone between them: always the latest come back, in their order. */
    private static void keptWrapAround() {
        LastLatch x = Checks.told("lane drafts 0;door a plain;door b plain;ajar a a;ajar b b;person p");
        for (int i = 0; i < 40; i++) {
            // in and out by a
            Checks.edge(x, "go(0, 0)", x.go(0, 0), 1 - i % 2, 0);
            Checks.due("size(10)", x.size(10), Math.min(i + 1, 16));
        }
        for (int i = 0; i < 5; i++) {
            Checks.edge(x, "undo()", x.undo(), true, 0);
        }
        Checks.due("size(10)", x.size(10), 11);
        Checks.edge(x, "person(0, 0) behind 35", x.person(0, 0), 1, 0);
        x.shut(0);
        Checks.due("size(10)", x.size(10), 12);
        Checks.edge(x, "undo()", x.undo(), true, 0);
        for (int i = 0; i < 11; i++) {
            Checks.edge(x, "person(0, 0)", x.person(0, 0), 1 - i % 2, 0);
            Checks.edge(x, "undo()", x.undo(), true, 0);
        }
        // behind 24 of them he is out
        Checks.edge(x, "person(0, 0)", x.person(0, 0), 0, 0);
        Checks.edge(x, "undo()", x.undo(), false, 6);
    }

    private static void refusedActsAreNone() {
        LastLatch x = Checks.told(ONE);
        x.open(0);
        x.open(0);
        x.open(9);
        x.nail(0);
        x.go(1, 0);
        x.spring(-1);
        x.shut(7);
        x.reach();
        x.image();
        Checks.due("size(10)", x.size(10), 1);
        Checks.edge(x, "undo()", x.undo(), true, 0);
        Checks.edge(x, "door(0, 1)", x.door(0, 1), 0, 0);
    }

    // ---- promises 43, 44: "NONE: 1 (no LANE); 3"; "All is as by an IMAGE (all IMAGES stay): true; false: 1"

    private static void threeImages() {
        LastLatch x = Checks.told(ONE);
        for (int i = 0; i < 3; i++) {
            Checks.edge(x, "image()", x.image(), i, 0);
            Checks.due("size(11)", x.size(11), i + 1);
        }
        for (int i = 0; i < 2; i++) {
            String before = Checks.picture(x);
            refused(before, x, "image(), no room", x.image(), 3);
        }
        // one that isn't refused says so, whatever was refused ahead of it
        LastLatch y = Checks.told(ONE);
        y.shut(0);
        Checks.due("trouble() ahead of image()", y.trouble(), 5);
        Checks.edge(y, "image() behind a refused call", y.image(), 0, 0);
        Checks.tell(y, "");
        Checks.due("trouble() ahead of image()", y.trouble(), 4);
        Checks.edge(y, "image() behind a FAULT", y.image(), 1, 0);
        // gone back there is no more room than before
        x.back(1);
        Checks.edge(x, "image()", x.image(), -1, 3);
    }

    private static void imageNumbers() {
        LastLatch x = Checks.told(ONE);
        x.open(0);
        String before = Checks.picture(x);
        for (int bad : new int[] {-1, 0, 1, 2, 3, LEAST, MOST}) {
            refused(before, x, "back(" + bad + ") of none", x.back(bad), 1);
        }
        x.image();
        before = Checks.picture(x);
        for (int bad : new int[] {-1, 1, 2, 3, LEAST, MOST}) {
            refused(before, x, "back(" + bad + ") of one", x.back(bad), 1);
        }
        x.image();
        x.image();
        before = Checks.picture(x);
        for (int bad : new int[] {-1, 3, 4, LEAST, MOST}) {
            refused(before, x, "back(" + bad + ") of three", x.back(bad), 1);
        }
        Checks.edge(x, "back(2)", x.back(2), true, 0);
    }

    private static void backKeepsImages() {
        LastLatch x = Checks.told(ONE);
        x.image();
        x.open(0);
        x.image();
        x.go(0, 0);
        x.image();
        int[] open = {0, 1, 1};
        int[] place = {0, 0, 1};
        for (int image : new int[] {0, 2, 1, 1, 2, 0}) {
            Checks.edge(x, "back(" + image + ")", x.back(image), true, 0);
            Checks.due("size(11)", x.size(11), 3);
            Checks.edge(x, "door(0, 1)", x.door(0, 1), open[image], 0);
            Checks.edge(x, "person(0, 0)", x.person(0, 0), place[image], 0);
        }
    }

    /** "gone back to one, nothing can be undone" */
    private static void backLeavesNothingToUndo() {
        LastLatch x = Checks.told(ONE);
        x.open(0);
        x.image();
        x.go(0, 0);
        Checks.due("size(10)", x.size(10), 2);
        x.back(0);
        Checks.due("size(10)", x.size(10), 0);
        Checks.edge(x, "undo()", x.undo(), false, 6);
        Checks.edge(x, "door(0, 1)", x.door(0, 1), 1, 0);
        x.shut(0);
        Checks.edge(x, "undo() of what was done since", x.undo(), true, 0);
        Checks.edge(x, "undo()", x.undo(), false, 6);
        // a refused back() leaves them
        x.shut(0);
        x.back(1);
        Checks.due("size(10)", x.size(10), 1);
        Checks.edge(x, "undo()", x.undo(), true, 0);
    }

    private static void backToTheWhole() {
        LastLatch x = Checks.told("lane drafts 0;door a spring;door b plain;door c plain;last c;ajar b a;person p;person q;inside q a");
        x.nail(2);
        x.spring(1);
        x.go(1, 1);
        x.open(0);
        x.image();
        int[] before = doors(x);
        x.go(0, 0);
        x.nail(0);
        x.spring(1);
        x.open(1);
        x.back(0);
        int[] behind = doors(x);
        for (int i = 0; i < before.length; i++) {
            Checks.due("answer " + i + " behind back()", behind[i], before[i]);
        }
    }

    private static int[] doors(LastLatch x) {
        int[] all = new int[18 + 10 + 1];
        int count = 0;
        for (int d = 0; d < 3; d++) {
            for (int what = 0; what <= 5; what++) {
                all[count++] = x.door(d, what);
            }
        }
        for (int p = 0; p < 2; p++) {
            for (int what = 0; what <= 4; what++) {
                all[count++] = x.person(p, what);
            }
        }
        all[count] = x.reach();
        return all;
    }

    private static void imagesBehindUndo() {
        LastLatch x = Checks.told(ONE);
        x.open(0);
        x.image();
        x.undo();
        Checks.due("size(11) stays by undo()", x.size(11), 1);
        Checks.edge(x, "door(0, 1)", x.door(0, 1), 0, 0);
        Checks.edge(x, "back(0), to what was undone", x.back(0), true, 0);
        Checks.edge(x, "door(0, 1)", x.door(0, 1), 1, 0);
    }

    private static void withoutALane() {
        LastLatch x = new LastLatch();
        for (int any : new int[] {LEAST, -1, 0, 1, 3, MOST}) {
            Checks.edge(x, "open(" + any + ")", x.open(any), -1, 1);
            Checks.edge(x, "shut(" + any + ")", x.shut(any), false, 1);
            Checks.edge(x, "go(" + any + ", 0)", x.go(any, 0), -1, 1);
            Checks.edge(x, "go(0, " + any + ")", x.go(0, any), -1, 1);
            Checks.edge(x, "nail(" + any + ")", x.nail(any), false, 1);
            Checks.edge(x, "spring(" + any + ")", x.spring(any), -1, 1);
            Checks.edge(x, "back(" + any + ")", x.back(any), false, 1);
        }
        for (int i = 0; i < 4; i++) {
            Checks.edge(x, "image()", x.image(), -1, 1);
        }
        Checks.edge(x, "undo()", x.undo(), false, 6);
        Checks.due("size(10)", x.size(10), 0);
        Checks.due("size(11)", x.size(11), 0);
    }
}
