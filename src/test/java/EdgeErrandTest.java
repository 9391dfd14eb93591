/** The boundary cases of promises 13 to 21: errands, and what can be come to, sentence by sentence. */
public final class EdgeErrandTest {
    private static final int LEAST = Integer.MIN_VALUE;
    private static final int MOST = Integer.MAX_VALUE;
    private static final String ONE = "lane drafts 0;door a plain;person p";

    public static void main(String[] args) {
        errandNumbers();
        errandOfNothing();
        errandDoneAlready();
        errandThatCantBe();
        errandOfSomeOfThem();
        errandByLastMoves();
        errandAtNumbers();
        firstRowByNumbers();
        shuttingsNumbers();
        shuttingsNoneOrMore();
        shuttingsOfLongerRows();
        wayToNumbers();
        wayToEdges();
        comesNumbers();
        comesEdges();
        reachOfOneAlone();
        reachCountsLast();
        fullReach();
        deepestAndStuck();
        askedAgain();
        newLaneIsAskedAnew();
        askingChangesNothing();
        withoutALane();
        Checks.finish();
    }

    // ---- promise 13: "-2 it can't be. NONE: 1 (no LANE); 2"

    private static void errandNumbers() {
        LastLatch x = Checks.told(ONE);
        for (int bad : new int[] {-1, 3, 4, LEAST, MOST}) {
            Checks.edge(x, "errand(" + bad + ")", x.errand(bad), -1, 2);
        }
        for (int what = 0; what <= 2; what++) {
            Checks.edge(x, "errand(" + what + ")", x.errand(what), 0, 0);
        }
    }

    /** Nobody wants anything, nobody has a home, nobody is there: all of none are where they must be. */
    private static void errandOfNothing() {
        LastLatch nobody = Checks.told("lane drafts 0;door a plain");
        LastLatch inside = Checks.told(ONE + ";inside p a");
        for (int what = 0; what <= 2; what++) {
            Checks.edge(nobody, "errand(" + what + ") of nobody", nobody.errand(what), 0, 0);
            Checks.edge(nobody, "errandAt(" + what + ", 0)", nobody.errandAt(what, 0), -1, 1);
            Checks.edge(nobody, "shuttings(" + what + ")", nobody.shuttings(what), 0, 0);
        }
        Checks.edge(inside, "errand(0), nothing wanted", inside.errand(0), 0, 0);
        Checks.edge(inside, "errand(1), no home", inside.errand(1), 0, 0);
        Checks.edge(inside, "errand(2), shut in", inside.errand(2), -2, 0);
    }

    private static void errandDoneAlready() {
        LastLatch x = Checks.told(ONE + ";inside p a;home p a;wants p a");
        Checks.edge(x, "errand(0)", x.errand(0), 0, 0);
        Checks.edge(x, "errand(1)", x.errand(1), 0, 0);
        LastLatch y = Checks.told(ONE + ";wants p lane;home p a");
        Checks.edge(y, "errand(0), wants lane", y.errand(0), 0, 0);
        Checks.edge(y, "errand(2)", y.errand(2), 0, 0);
        Checks.edge(y, "errand(1)", y.errand(1), 2, 0);
    }

    private static void errandThatCantBe() {
        LastLatch x = Checks.told(ONE + ";locked a;wants p a;home p a");
        for (int what = 0; what <= 1; what++) {
            Checks.edge(x, "errand(" + what + "), locked", x.errand(what), -2, 0);
            Checks.edge(x, "shuttings(" + what + "), locked", x.shuttings(what), -2, 0);
            Checks.edge(x, "errandAt(" + what + ", 0), locked", x.errandAt(what, 0), -1, 1);
        }
        // by nails it can't be, and by undoing it can again
        LastLatch y = Checks.told(ONE + ";wants p a");
        Checks.edge(y, "errand(0)", y.errand(0), 2, 0);
        y.nail(0);
        Checks.edge(y, "errand(0), nailed", y.errand(0), -2, 0);
        Checks.edge(y, "shuttings(0), nailed", y.shuttings(0), -2, 0);
        y.undo();
        Checks.edge(y, "errand(0), undone", y.errand(0), 2, 0);
        // each can come there, but not both: the spring door shuts behind the first, and nobody has a key
        LastLatch z = Checks.told("lane drafts 0;door a spring;locked a;ajar a a;person p;person q;wants p a;wants q a");
        Checks.edge(z, "wayTo(0, 1)", z.wayTo(0, 1), 1, 0);
        Checks.edge(z, "wayTo(1, 1)", z.wayTo(1, 1), 1, 0);
        Checks.edge(z, "errand(0), one or the other", z.errand(0), -2, 0);
        Checks.edge(z, "shuttings(0), one or the other", z.shuttings(0), -2, 0);
        // with p's key q goes in first
        LastLatch k = Checks.told("lane drafts 0;door a spring;locked a;person p;person q;key p;wants p a;wants q a");
        Checks.edge(k, "errand(0), q first", k.errand(0), 4, 0);
        Checks.edge(k, "errandAt(0, 1), q first", k.errandAt(0, 1), 3, 0);
    }

    /** "all who want something": who wants nothing may be anywhere. */
    private static void errandOfSomeOfThem() {
        LastLatch x = Checks.told("lane drafts 0;door a plain;person p;person q;inside p a;wants q a;home q a");
        // q opens and goes in; p stays where he is
        Checks.edge(x, "errand(0)", x.errand(0), 2, 0);
        Checks.edge(x, "errandAt(0, 1)", x.errandAt(0, 1), 3, 0);
        Checks.edge(x, "errand(1)", x.errand(1), 2, 0);
        // OUT is for all
        Checks.edge(x, "errand(2)", x.errand(2), 2, 0);
        Checks.edge(x, "errandAt(2, 1)", x.errandAt(2, 1), 2, 0);
    }

    private static void errandByLastMoves() {
        // OPEN 0 1, SHUT 2 3, GO 4 5: to b's ROOM b must be opened, shut, then one is opened and gone through
        LastLatch x = Checks.told("lane drafts 0;door a plain;door b plain;person p;wants p b;home p b");
        int[] due = {1, 3, 0, 4};
        Checks.edge(x, "errand(0)", x.errand(0), 4, 0);
        for (int i = 0; i < 4; i++) {
            Checks.edge(x, "errandAt(0, " + i + ")", x.errandAt(0, i), due[i], 0);
            Checks.edge(x, "errandAt(1, " + i + ")", x.errandAt(1, i), due[i], 0);
        }
        Checks.edge(x, "errandAt(0, 4)", x.errandAt(0, 4), -1, 1);
    }

    // ---- promise 14: "NONE: 1 (no LANE; i; it can't be); 2"

    private static void errandAtNumbers() {
        LastLatch x = Checks.told(ONE + ";wants p a");
        Checks.edge(x, "errandAt(0, 0)", x.errandAt(0, 0), 0, 0);
        Checks.edge(x, "errandAt(0, 1)", x.errandAt(0, 1), 2, 0);
        for (int bad : new int[] {-1, 2, 3, LEAST, MOST}) {
            Checks.edge(x, "errandAt(0, " + bad + ")", x.errandAt(0, bad), -1, 1);
        }
        for (int bad : new int[] {-1, 0, 1, LEAST, MOST}) {
            // already out: there is no STEP
            Checks.edge(x, "errandAt(2, " + bad + ")", x.errandAt(2, bad), -1, 1);
        }
        for (int bad : new int[] {-1, 3, LEAST, MOST}) {
            Checks.edge(x, "errandAt(" + bad + ", 0)", x.errandAt(bad, 0), -1, 2);
        }
    }

    /** "of like ones the first row by numbers of STEPS" */
    private static void firstRowByNumbers() {
        // a and b lead to b's: by a ahead of by b, and p ahead of q
        LastLatch x = Checks.told("lane drafts 0;door a plain;door b plain;ajar a b;ajar b b;person p;person q;"
            + "wants p b;wants q b");
        Checks.edge(x, "errand(0)", x.errand(0), 2, 0);
        Checks.edge(x, "errandAt(0, 0)", x.errandAt(0, 0), 4, 0);
        Checks.edge(x, "errandAt(0, 1)", x.errandAt(0, 1), 6, 0);
        // p comes out and q goes in, in either order: p's STEP has the lower number
        LastLatch y = Checks.told("lane drafts 0;door a plain;door b plain;ajar a a;person p;person q;inside p a;"
            + "wants p lane;wants q a");
        Checks.edge(y, "errand(0)", y.errand(0), 2, 0);
        Checks.edge(y, "errandAt(0, 0)", y.errandAt(0, 0), 4, 0);
        Checks.edge(y, "errandAt(0, 1)", y.errandAt(0, 1), 6, 0);
        // either door can be opened to a's ROOM: the first
        LastLatch z = Checks.told("lane drafts 0;door a plain;door b plain;person p;wants p a");
        Checks.edge(z, "errandAt(0, 0)", z.errandAt(0, 0), 0, 0);
        Checks.edge(z, "errandAt(0, 1)", z.errandAt(0, 1), 4, 0);
    }

    // ---- promise 15: "-2 it can't be. NONE: 1 (no LANE); 2"

    private static void shuttingsNumbers() {
        LastLatch x = Checks.told(ONE);
        for (int bad : new int[] {-1, 3, 4, LEAST, MOST}) {
            Checks.edge(x, "shuttings(" + bad + ")", x.shuttings(bad), -1, 2);
        }
    }

    private static void shuttingsNoneOrMore() {
        LastLatch none = Checks.told(ONE + ";wants p a");
        Checks.edge(none, "shuttings(0)", none.shuttings(0), 0, 0);
        LastLatch one = Checks.told("lane drafts 0;door a plain;door b plain;person p;wants p b");
        Checks.edge(one, "shuttings(0), by SHUT", one.shuttings(0), 1, 0);
        LastLatch spring = Checks.told("lane drafts 0;door a spring;person p;wants p a");
        Checks.edge(spring, "shuttings(0), by a spring", spring.shuttings(0), 1, 0);
        // two spring doors each for two people: each goes by one
        LastLatch two = Checks.told("lane drafts 0;door a spring;person p;person q;wants p a;wants q a");
        Checks.edge(two, "shuttings(0), by springs", two.shuttings(0), 2, 0);
        // the same door shut twice counts twice
        Checks.edge(two, "errand(0)", two.errand(0), 4, 0);
    }

    private static void shuttingsOfLongerRows() {
        // one STEP by the spring door a, or two by b (OPEN b, which leads to c's as well): none is shut
        LastLatch x = Checks.told("lane drafts 0;door a spring;door b plain;door c plain;last c;ajar a c;person p;"
            + "wants p c;home p c");
        Checks.edge(x, "errand(0)", x.errand(0), 1, 0);
        Checks.edge(x, "errandAt(0, 0)", x.errandAt(0, 0), 6, 0);
        Checks.edge(x, "shuttings(0)", x.shuttings(0), 0, 0);
        x.nail(1);
        x.nail(2);
        Checks.edge(x, "shuttings(0), only by a", x.shuttings(0), 1, 0);
        // b must be shut, opened, and shuts behind him; or both are shut, and a is opened: two in either case
        LastLatch y = Checks.told("lane drafts 0;door a plain;door b spring;ajar b a;ajar a a;person p;home p b");
        Checks.edge(y, "shuttings(1), two", y.shuttings(1), 2, 0);
        Checks.edge(y, "errand(1), three", y.errand(1), 3, 0);
        // b can't be opened again: a is shut, then b, a leads to b's
        LastLatch z = Checks.told("lane drafts 0;door a plain;door b plain;locked b;ajar a a;ajar b a;person p;wants p b");
        Checks.edge(z, "shuttings(0), two", z.shuttings(0), 2, 0);
        int[] due = {2, 3, 0, 4};
        for (int i = 0; i < 4; i++) {
            Checks.edge(z, "errandAt(0, " + i + ")", z.errandAt(0, i), due[i], 0);
        }
    }

    // ---- promise 16: "-2. NONE: 1 (no such person, no such ROOM)"

    private static void wayToNumbers() {
        LastLatch x = Checks.told("lane drafts 0;door a plain;door b plain;person p");
        for (int bad : new int[] {-1, 1, 2, LEAST, MOST}) {
            Checks.edge(x, "wayTo(" + bad + ", 0)", x.wayTo(bad, 0), -1, 1);
        }
        for (int bad : new int[] {-2, -1, 3, 4, LEAST, MOST}) {
            Checks.edge(x, "wayTo(0, " + bad + ")", x.wayTo(0, bad), -1, 1);
        }
        Checks.edge(x, "wayTo(0, 0)", x.wayTo(0, 0), 0, 0);
        Checks.edge(x, "wayTo(0, 2)", x.wayTo(0, 2), 4, 0);
        LastLatch nobody = Checks.told("lane drafts 0;door a plain");
        Checks.edge(nobody, "wayTo(0, 0) of nobody", nobody.wayTo(0, 0), -1, 1);
    }

    private static void wayToEdges() {
        LastLatch x = Checks.told("lane drafts 0;door a plain;person p;person q;inside q a");
        Checks.edge(x, "wayTo(1, 1), there already", x.wayTo(1, 1), 0, 0);
        Checks.edge(x, "wayTo(1, 0), let out", x.wayTo(1, 0), 2, 0);
        x.nail(0);
        Checks.edge(x, "wayTo(1, 0), nailed in", x.wayTo(1, 0), -2, 0);
        Checks.edge(x, "wayTo(0, 1), nailed out", x.wayTo(0, 1), -2, 0);
        LastLatch four = Checks.told("lane drafts 0;door a plain;door b plain;door c plain;door d plain;last d;person p");
        Checks.edge(four, "wayTo(0, 4)", four.wayTo(0, 4), 2, 0);
        Checks.edge(four, "wayTo(0, 5)", four.wayTo(0, 5), -1, 1);
    }

    // ---- promise 17: "NONE: 1"

    private static void comesNumbers() {
        LastLatch x = Checks.told(ONE);
        for (int bad : new int[] {-1, 1, 2, LEAST, MOST}) {
            Checks.edge(x, "comes(" + bad + ")", x.comes(bad), -1, 1);
        }
        LastLatch nobody = Checks.told("lane drafts 0;door a plain");
        Checks.edge(nobody, "comes(0) of nobody", nobody.comes(0), -1, 1);
    }

    private static void comesEdges() {
        LastLatch x = Checks.told("lane drafts 0;door a plain;door b plain;door c plain;door d plain;person p;person q;inside q d");
        Checks.edge(x, "comes(0)", x.comes(0), 31, 0);
        Checks.edge(x, "comes(1)", x.comes(1), 31, 0);
        for (int d = 0; d < 4; d++) {
            x.nail(d);
        }
        Checks.edge(x, "comes(0), all nailed", x.comes(0), 1, 0);
        Checks.edge(x, "comes(1), all nailed", x.comes(1), 16, 0);
        LastLatch in = Checks.told(ONE + ";inside p a");
        Checks.edge(in, "comes(0), shut in", in.comes(0), 2, 0);
    }

    // ---- promises 18 to 21

    private static void reach(String text, int reach, int placings, int deepest, int stuck) {
        LastLatch x = Checks.told(text);
        Checks.edge(x, "reach() of " + text, x.reach(), reach, 0);
        Checks.edge(x, "placings() of " + text, x.placings(), placings, 0);
        Checks.edge(x, "deepest() of " + text, x.deepest(), deepest, 0);
        Checks.edge(x, "stuckOnes() of " + text, x.stuckOnes(), stuck, 0);
    }

    /** "NOW's too": where nothing can be done there is one, which is a stuck one. */
    private static void reachOfOneAlone() {
        reach("lane drafts 0;door a plain", 1, 1, 0, 1);
        reach("lane drafts 0;door a plain;ajar a a", 1, 1, 0, 1);
        reach(ONE + ";inside p a", 1, 1, 0, 1);
        reach(ONE + ";locked a", 1, 1, 0, 1);
        reach("lane drafts 0;door a heavy;person p", 1, 1, 0, 1);
    }

    /** The same people and doors with another LAST are another ARRANGEMENT. */
    private static void reachCountsLast() {
        // open it, in or out, or shut it again from either side: out shut, out open, in open, in shut
        reach(ONE, 4, 2, 3, 1);
        // a stuck one stays open: out shut, out open, in
        reach("lane drafts 0;door a stuck;person p", 3, 2, 2, 0);
        // a spring one: out shut, out open, in shut
        reach("lane drafts 0;door a spring;person p", 3, 2, 2, 1);
        // a is stuck open to b's, b is nailed out of use by its lock: p is out or in b's; LAST stays
        reach("lane drafts 0;door a stuck;door b plain;locked b;last b;ajar a b;person p", 2, 2, 1, 0);
        // a plain one open at first that leads to b's, b locked: out open; in b's; shut from out, from in, LAST a then;
        // opened again it leads to a's: out open, in a's open, in a's shut
        reach("lane drafts 0;door a plain;door b plain;locked b;last b;ajar a b;person p", 7, 3, 4, 2);
    }

    /** The most that a lane can have: four doors, two people, all plain. */
    private static void fullReach() {
        LastLatch x = Checks.told("lane drafts 0;door a plain;door b plain;door c plain;door d plain;person p;person q");
        int reach = x.reach();
        Checks.due("below 5^6 times 4", reach > 1000 && reach < 62500, true);
        Checks.edge(x, "placings()", x.placings(), 25, 0);
        x.open(0);
        Checks.due("the same again behind a STEP that can be taken back", x.reach() <= reach, true);
        x.undo();
        Checks.edge(x, "reach() again", x.reach(), reach, 0);
    }

    private static void deepestAndStuck() {
        // both in and the door shut behind them: open, go, go, shut; they can't open it
        reach("lane drafts 0;door a plain;person p;person q", 8, 4, 4, 1);
        LastLatch x = Checks.told(ONE);
        x.open(0);
        x.go(0, 0);
        x.shut(0);
        Checks.edge(x, "deepest(), where nothing can be done", x.deepest(), 0, 0);
        Checks.edge(x, "stuckOnes(), NOW's too", x.stuckOnes(), 1, 0);
    }

    /** "From NOW": asked again the same, behind an ACT what is due then, undone as before. */
    private static void askedAgain() {
        LastLatch x = Checks.told("lane drafts 0;door a plain;person p;person q;wants p a");
        for (int i = 0; i < 3; i++) {
            all(x, 8, 4, 1, 2);
        }
        x.open(0);
        all(x, 8, 4, 1, 1);
        x.go(0, 0);
        all(x, 8, 4, 1, 0);
        x.go(1, 0);
        x.shut(0);
        all(x, 1, 1, 1, 0);
        x.undo();
        x.undo();
        x.undo();
        all(x, 8, 4, 1, 1);
        x.undo();
        x.nail(0);
        all(x, 1, 1, 1, -2);
        x.undo();
        all(x, 8, 4, 1, 2);
    }

    private static void all(LastLatch x, int reach, int placings, int stuck, int errand) {
        Checks.edge(x, "reach()", x.reach(), reach, 0);
        Checks.edge(x, "placings()", x.placings(), placings, 0);
        Checks.edge(x, "stuckOnes()", x.stuckOnes(), stuck, 0);
        Checks.edge(x, "errand(0)", x.errand(0), errand, 0);
        Checks.edge(x, "wayTo(0, 1)", x.wayTo(0, 1), errand, 0);
    }

    /** A new LANE whose doors and people stand as those of the one ahead did, but for locks, keys, wants. */
    private static void newLaneIsAskedAnew() {
        LastLatch x = Checks.told("lane drafts 0;door a plain;person p;person q;wants p a");
        all(x, 8, 4, 1, 2);
        Checks.tell(x, "lane drafts 0;door a plain;person p;person q;wants p a;locked a");
        all(x, 1, 1, 1, -2);
        // p has the key: with him behind the shut door nothing can be done, wherever q is
        Checks.tell(x, "lane drafts 0;door a plain;person p;person q;wants p a;locked a;key p");
        all(x, 8, 4, 2, 2);
        Checks.tell(x, "lane drafts 0;door a plain;person p;person q;wants p a");
        all(x, 8, 4, 1, 2);
        // a text with a FAULT leaves it as it is
        Checks.tell(x, "lane drafts 0;door a plain;person p;person q;wants p a;locked a;");
        all(x, 8, 4, 1, 2);
    }

    /** These ask from NOW and leave it as it is. */
    private static void askingChangesNothing() {
        LastLatch x = Checks.told("lane drafts 0;door a spring;door b plain;last b;person p;person q;inside q a;wants p b");
        x.open(0);
        String before = Checks.picture(x);
        x.errand(0);
        x.errandAt(2, 0);
        x.shuttings(2);
        x.wayTo(1, 0);
        x.comes(1);
        x.reach();
        x.placings();
        x.deepest();
        x.stuckOnes();
        x.errand(9);
        x.wayTo(9, 9);
        Checks.same("questions", before, x);
    }

    /** "NONE: 1 (no LANE)", ahead of a number that is wrong, too. */
    private static void withoutALane() {
        LastLatch x = new LastLatch();
        for (int any : new int[] {LEAST, -1, 0, 1, 2, 3, MOST}) {
            Checks.edge(x, "errand(" + any + ")", x.errand(any), -1, 1);
            Checks.edge(x, "errandAt(" + any + ", 0)", x.errandAt(any, 0), -1, 1);
            Checks.edge(x, "errandAt(0, " + any + ")", x.errandAt(0, any), -1, 1);
            Checks.edge(x, "shuttings(" + any + ")", x.shuttings(any), -1, 1);
            Checks.edge(x, "wayTo(" + any + ", 0)", x.wayTo(any, 0), -1, 1);
            Checks.edge(x, "wayTo(0, " + any + ")", x.wayTo(0, any), -1, 1);
            Checks.edge(x, "comes(" + any + ")", x.comes(any), -1, 1);
        }
        Checks.edge(x, "reach()", x.reach(), -1, 1);
        Checks.edge(x, "placings()", x.placings(), -1, 1);
        Checks.edge(x, "deepest()", x.deepest(), -1, 1);
        Checks.edge(x, "stuckOnes()", x.stuckOnes(), -1, 1);
    }
}
