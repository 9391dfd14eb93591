/** Promises 13 to 21: errands, ways, and what can be come to at all. */
public final class ErrandTest {
    public static void main(String[] args) {
        swap();
        nothingWanted();
        cantBe();
        firstOfLikeRows();
        shuttingsAreNotSteps();
        springsShutToo();
        ways();
        oneDoor();
        reachByActs();
        refusals();
        Checks.finish();
    }

    private static void row(LastLatch x, int what, int... steps) {
        Checks.granted(x, "errand(" + what + ")", x.errand(what), steps.length);
        for (int i = 0; i < steps.length; i++) {
            Checks.granted(x, "errandAt(" + what + ", " + i + ")", x.errandAt(what, i), steps[i]);
        }
        Checks.refused(x, "errandAt(" + what + ", end)", x.errandAt(what, steps.length), 1);
        Checks.refused(x, "errandAt(" + what + ", -1)", x.errandAt(what, -1), 1);
    }

    /** p wants in b's ROOM while a was shut last: b must be shut last first. */
    private static void swap() {
        LastLatch x = Checks.told("lane drafts 0;door a plain;door b plain;person p;wants p b;home p a");
        // open a, go in by it: home; OPEN 0 1, SHUT 2 3, GO 4 5
        row(x, 1, 0, 4);
        // open b (it leads to a's), shut b, open a (it leads to b's), go by a
        row(x, 0, 1, 3, 0, 4);
        row(x, 2);
        Checks.granted(x, "shuttings(0)", x.shuttings(0), 1);
        Checks.granted(x, "shuttings(1)", x.shuttings(1), 0);
        Checks.granted(x, "shuttings(2)", x.shuttings(2), 0);
        x.open(1);
        x.shut(1);
        row(x, 0, 0, 4);
        x.undo();
        row(x, 0, 3, 0, 4);
    }

    private static void nothingWanted() {
        LastLatch x = Checks.told("lane drafts 0;door a plain;person p;person q;inside q a");
        row(x, 0);
        row(x, 1);
        row(x, 2, 0, 3);
        LastLatch y = Checks.told("lane drafts 0;door a plain");
        row(y, 0);
        row(y, 1);
        row(y, 2);
        Checks.granted(y, "shuttings(2)", y.shuttings(2), 0);
    }

    private static void cantBe() {
        // he is behind the shut door and nobody is in the lane
        LastLatch x = Checks.told("lane drafts 0;door a plain;person p;inside p a;wants p lane;home p a");
        Checks.granted(x, "errand(0)", x.errand(0), -2);
        Checks.granted(x, "errand(2)", x.errand(2), -2);
        Checks.granted(x, "shuttings(0)", x.shuttings(0), -2);
        Checks.granted(x, "shuttings(1)", x.shuttings(1), 0);
        Checks.refused(x, "errandAt(0, 0)", x.errandAt(0, 0), 1);
        Checks.granted(x, "wayTo(0, 0)", x.wayTo(0, 0), -2);
        Checks.granted(x, "comes(0)", x.comes(0), 2);
        row(x, 1);
    }

    private static void firstOfLikeRows() {
        // both doors lead to b's ROOM: by a is the first row, and of both people p goes ahead of q
        LastLatch x = Checks.told("lane drafts 0;door a plain;door b plain;ajar a b;ajar b b;person p;person q;"
            + "wants p b;wants q b");
        row(x, 0, 4, 6);
        // only door b is open: no OPEN is needed
        LastLatch y = Checks.told("lane drafts 0;door a plain;door b plain;last a;ajar b a;person p;wants p a");
        row(y, 0, 5);
    }

    private static void shuttingsAreNotSteps() {
        // the fewest STEPS shut a spring door on the way; a longer row by the plain one shuts none
        LastLatch x = Checks.told("lane drafts 0;door s spring;door b plain;last b;ajar s b;person p;wants p b");
        row(x, 0, 4);
        Checks.granted(x, "shuttings(0)", x.shuttings(0), 0);
        Checks.granted(x, "spring(0)", x.spring(0), 0);
        Checks.granted(x, "shuttings(0)", x.shuttings(0), 0);
    }

    private static void springsShutToo() {
        // only the spring door can be opened (it leads to its own ROOM): going by it shuts it
        LastLatch x = Checks.told("lane drafts 0;door s spring;person p;wants p s");
        row(x, 0, 0, 2);
        Checks.granted(x, "shuttings(0)", x.shuttings(0), 1);
        Checks.granted(x, "spring(0)", x.spring(0), 0);
        Checks.granted(x, "shuttings(0)", x.shuttings(0), 0);
    }

    private static void ways() {
        LastLatch x = Checks.told("lane drafts 0;door a plain;door b plain;person p");
        Checks.granted(x, "wayTo(0, 0)", x.wayTo(0, 0), 0);
        Checks.granted(x, "wayTo(0, 1)", x.wayTo(0, 1), 2);
        Checks.granted(x, "wayTo(0, 2)", x.wayTo(0, 2), 4);
        Checks.refused(x, "wayTo(0, 3)", x.wayTo(0, 3), 1);
        Checks.refused(x, "wayTo(0, -1)", x.wayTo(0, -1), 1);
        Checks.refused(x, "wayTo(1, 0)", x.wayTo(1, 0), 1);
        Checks.refused(x, "wayTo(-1, 0)", x.wayTo(-1, 0), 1);
        Checks.granted(x, "comes(0)", x.comes(0), 7);
        Checks.refused(x, "comes(1)", x.comes(1), 1);
        Checks.refused(x, "comes(-1)", x.comes(-1), 1);
        // with b nailed only a can be opened, which leads to its own ROOM for good
        x.nail(1);
        Checks.granted(x, "wayTo(0, 2)", x.wayTo(0, 2), -2);
        Checks.granted(x, "comes(0)", x.comes(0), 3);
    }

    private static void oneDoor() {
        LastLatch x = Checks.told("lane drafts 0;door a plain;person p;person q");
        // shut: both out; open: each out or in; shut again: all ways but both in leave somebody in the lane
        Checks.granted(x, "reach()", x.reach(), 8);
        Checks.granted(x, "placings()", x.placings(), 4);
        // open, go, go, shut
        Checks.granted(x, "deepest()", x.deepest(), 4);
        Checks.granted(x, "stuckOnes()", x.stuckOnes(), 1);
        LastLatch y = Checks.told("lane drafts 0;door a stuck;person p");
        Checks.granted(y, "reach()", y.reach(), 3);
        Checks.granted(y, "stuckOnes()", y.stuckOnes(), 0);
        Checks.granted(y, "deepest()", y.deepest(), 2);
        LastLatch z = Checks.told("lane drafts 0;door a spring;person p");
        // open, go: it is shut behind him
        Checks.granted(z, "reach()", z.reach(), 3);
        Checks.granted(z, "placings()", z.placings(), 2);
        Checks.granted(z, "stuckOnes()", z.stuckOnes(), 1);
        LastLatch w = Checks.told("lane drafts 0;door a plain;door b plain");
        Checks.granted(w, "reach()", w.reach(), 1);
        Checks.granted(w, "placings()", w.placings(), 1);
        Checks.granted(w, "deepest()", w.deepest(), 0);
        Checks.granted(w, "stuckOnes()", w.stuckOnes(), 1);
    }

    private static void reachByActs() {
        LastLatch x = Checks.told("lane drafts 0;door a plain;person p");
        Checks.granted(x, "reach()", x.reach(), 4);
        x.open(0);
        x.go(0, 0);
        x.shut(0);
        Checks.granted(x, "reach()", x.reach(), 1);
        x.undo();
        Checks.granted(x, "reach()", x.reach(), 4);
        Checks.granted(x, "deepest()", x.deepest(), 2);
        // another lane with the same numbers inside is asked anew
        Checks.tell(x, "lane drafts 0;door a stuck;person p");
        Checks.granted(x, "reach()", x.reach(), 3);
        Checks.tell(x, "lane drafts 0;door a stuck;locked a;person p");
        Checks.granted(x, "reach()", x.reach(), 1);
        Checks.tell(x, "lane drafts 0;door a stuck;locked a;person p;key p");
        Checks.granted(x, "reach()", x.reach(), 3);
    }

    private static void refusals() {
        LastLatch x = Checks.told("lane drafts 0;door a plain;person p");
        for (int what : new int[] {-1, 3, Integer.MAX_VALUE, Integer.MIN_VALUE}) {
            Checks.refused(x, "errand(" + what + ")", x.errand(what), 2);
            Checks.refused(x, "errandAt(" + what + ", 0)", x.errandAt(what, 0), 2);
            Checks.refused(x, "shuttings(" + what + ")", x.shuttings(what), 2);
        }
    }
}
