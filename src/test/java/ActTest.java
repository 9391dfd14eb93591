/** Promises 37 to 44 and 47: acts, undoing, images, trouble. */
public final class ActTest {
    public static void main(String[] args) {
        opening();
        shutting();
        going();
        nailing();
        springing();
        undoing();
        sixteenAreKept();
        images();
        troubleStays();
        withoutLane();
        Checks.finish();
    }

    private static void opening() {
        LastLatch x = Checks.told("lane drafts 0;door a plain;door b plain;door c heavy;last b;person p");
        Checks.granted(x, "open(0)", x.open(0), 2);
        Checks.granted(x, "open(1)", x.open(1), 2);
        Checks.granted(x, "last() stays by opening", x.last(), 1);
        Checks.refused(x, "open(0) again", x.open(0), 5);
        Checks.refused(x, "open(2), heavy", x.open(2), 6);
        Checks.refused(x, "open(3)", x.open(3), 1);
        Checks.refused(x, "open(-1)", x.open(-1), 1);
        Checks.due("size(10)", x.size(10), 2);
        // a room keeps its door once opened, whatever is shut later
        Checks.granted(x, "shut(1)", x.shut(1));
        Checks.granted(x, "door(0, 1)", x.door(0, 1), 2);
        Checks.granted(x, "shut(0)", x.shut(0));
        Checks.granted(x, "open(1)", x.open(1), 1);
        // an open one that nobody could open is open all the same
        LastLatch y = Checks.told("lane drafts 0;door a plain;ajar a a");
        Checks.refused(y, "open(0), nobody there", y.open(0), 5);
        LastLatch z = Checks.told("lane drafts 0;door a plain");
        Checks.refused(z, "open(0), nobody there", z.open(0), 6);
    }

    private static void shutting() {
        LastLatch x = Checks.told("lane drafts 0;door a plain;door b stuck;last a;ajar b b;person p");
        Checks.refused(x, "shut(0)", x.shut(0), 5);
        Checks.refused(x, "shut(1), stuck", x.shut(1), 6);
        Checks.refused(x, "shut(2)", x.shut(2), 1);
        Checks.refused(x, "shut(-1)", x.shut(-1), 1);
        Checks.due("size(10)", x.size(10), 0);
        Checks.granted(x, "open(0)", x.open(0), 1);
        Checks.granted(x, "go(0, 1)", x.go(0, 1), 2);
        // he is in b's ROOM, a leads to its own
        Checks.refused(x, "shut(0) from b's", x.shut(0), 6);
        Checks.granted(x, "go(0, 1)", x.go(0, 1), 0);
        Checks.granted(x, "go(0, 0)", x.go(0, 0), 1);
        Checks.granted(x, "shut(0) from a's", x.shut(0));
        Checks.granted(x, "last()", x.last(), 0);
        Checks.granted(x, "shutIn()", x.shutIn(), 1);
    }

    private static void going() {
        LastLatch x = Checks.told("lane drafts 0;door a spring;door b plain;door c plain;last c;ajar a b;ajar b b;"
            + "person p;person q;inside q a");
        Checks.refused(x, "go(0, 2), shut", x.go(0, 2), 5);
        Checks.refused(x, "go(1, 1), from a's", x.go(1, 1), 6);
        Checks.refused(x, "go(2, 0)", x.go(2, 0), 1);
        Checks.refused(x, "go(-1, 0)", x.go(-1, 0), 1);
        Checks.refused(x, "go(0, 3)", x.go(0, 3), 1);
        Checks.refused(x, "go(0, -1)", x.go(0, -1), 1);
        Checks.due("size(10)", x.size(10), 0);
        Checks.granted(x, "go(0, 0)", x.go(0, 0), 2);
        Checks.granted(x, "it is shut behind him", x.door(0, 1), 0);
        Checks.granted(x, "last()", x.last(), 0);
        Checks.granted(x, "go(0, 1), out", x.go(0, 1), 0);
        Checks.granted(x, "the plain one stays open", x.door(1, 1), 2);
        Checks.granted(x, "last()", x.last(), 0);
        Checks.granted(x, "open(2)", x.open(2), 1);
        Checks.granted(x, "go(1, 2), out of a's by c", x.go(1, 2), 0);
        Checks.granted(x, "door(0, 4)", x.door(0, 4), 0);
    }

    private static void nailing() {
        LastLatch x = Checks.told("lane drafts 0;door a plain;door b plain;last a;ajar b b;person p");
        Checks.refused(x, "nail(1), open", x.nail(1), 6);
        Checks.granted(x, "nail(0)", x.nail(0));
        Checks.refused(x, "nail(0) again", x.nail(0), 5);
        Checks.refused(x, "nail(2)", x.nail(2), 1);
        Checks.refused(x, "nail(-1)", x.nail(-1), 1);
        Checks.refused(x, "open(0), nailed", x.open(0), 6);
        Checks.granted(x, "can(0)", x.can(0), 0);
        Checks.granted(x, "last()", x.last(), 0);
        Checks.due("size(10)", x.size(10), 1);
        // nailing takes nobody
        LastLatch y = Checks.told("lane drafts 0;door a plain");
        Checks.granted(y, "nail(0)", y.nail(0));
    }

    private static void springing() {
        LastLatch x = Checks.told("lane drafts 0;door a plain;door b spring;door c heavy;door d stuck;ajar d d;person p");
        Checks.granted(x, "spring(0)", x.spring(0), 1);
        Checks.granted(x, "door(0, 0)", x.door(0, 0), 1);
        Checks.granted(x, "spring(0)", x.spring(0), 0);
        Checks.granted(x, "spring(1)", x.spring(1), 0);
        Checks.refused(x, "spring(2)", x.spring(2), 5);
        Checks.refused(x, "spring(3)", x.spring(3), 5);
        Checks.refused(x, "spring(4)", x.spring(4), 1);
        Checks.refused(x, "spring(-1)", x.spring(-1), 1);
        Checks.due("size(10)", x.size(10), 3);
        x.spring(0);
        x.open(0);
        Checks.granted(x, "go(0, 0)", x.go(0, 0), 1);
        Checks.granted(x, "shut behind him", x.door(0, 1), 0);
    }

    private static void undoing() {
        LastLatch x = Checks.told("lane drafts 0;door a spring;door b plain;last b;person p");
        Checks.refused(x, "undo()", x.undo(), 6);
        x.open(0);
        x.go(0, 0);
        x.nail(1);
        x.spring(0);
        Checks.due("size(10)", x.size(10), 4);
        Checks.granted(x, "undo()", x.undo());
        Checks.granted(x, "door(0, 0)", x.door(0, 0), 1);
        Checks.granted(x, "undo()", x.undo());
        Checks.granted(x, "door(1, 3)", x.door(1, 3), 0);
        Checks.granted(x, "undo()", x.undo());
        Checks.granted(x, "door(0, 1)", x.door(0, 1), 2);
        Checks.granted(x, "last()", x.last(), 1);
        Checks.granted(x, "person(0, 0)", x.person(0, 0), 0);
        // a refused act is no act
        x.open(0);
        Checks.due("size(10)", x.size(10), 1);
        Checks.granted(x, "undo()", x.undo());
        Checks.granted(x, "door(0, 1)", x.door(0, 1), 0);
        Checks.refused(x, "undo()", x.undo(), 6);
    }

    private static void sixteenAreKept() {
        LastLatch x = Checks.told("lane drafts 0;door a plain;person p");
        x.open(0);
        for (int i = 0; i < 16; i++) {
            x.spring(0);
        }
        Checks.due("size(10)", x.size(10), 16);
        for (int i = 0; i < 16; i++) {
            Checks.granted(x, "undo()", x.undo());
        }
        Checks.refused(x, "undo()", x.undo(), 6);
        Checks.granted(x, "door(0, 1)", x.door(0, 1), 1);
    }

    private static void images() {
        LastLatch x = Checks.told("lane drafts 0;door a plain;door b spring;last b;person p");
        Checks.refused(x, "back(0)", x.back(0), 1);
        Checks.granted(x, "image()", x.image(), 0);
        x.open(0);
        x.nail(1);
        x.spring(0);
        Checks.granted(x, "image()", x.image(), 1);
        Checks.due("size(10) stays by image()", x.size(10), 3);
        x.go(0, 0);
        Checks.granted(x, "image()", x.image(), 2);
        Checks.refused(x, "image()", x.image(), 3);
        Checks.due("size(11)", x.size(11), 3);
        Checks.refused(x, "back(3)", x.back(3), 1);
        Checks.refused(x, "back(-1)", x.back(-1), 1);
        Checks.due("size(10) stays by a refused back()", x.size(10), 4);
        Checks.granted(x, "back(0)", x.back(0));
        Checks.refused(x, "undo()", x.undo(), 6);
        Checks.due("size(11)", x.size(11), 3);
        Checks.granted(x, "door(0, 1)", x.door(0, 1), 0);
        Checks.granted(x, "door(1, 3)", x.door(1, 3), 0);
        Checks.granted(x, "door(0, 0)", x.door(0, 0), 0);
        Checks.granted(x, "back(2)", x.back(2));
        Checks.granted(x, "person(0, 0)", x.person(0, 0), 2);
        Checks.granted(x, "last()", x.last(), 0);
        Checks.granted(x, "back(1)", x.back(1));
        Checks.granted(x, "person(0, 0)", x.person(0, 0), 0);
        Checks.granted(x, "door(0, 1)", x.door(0, 1), 2);
        Checks.granted(x, "door(1, 3)", x.door(1, 3), 1);
        Checks.granted(x, "go(0, 0)", x.go(0, 0), 2);
        Checks.granted(x, "undo()", x.undo());
        Checks.granted(x, "door(0, 1)", x.door(0, 1), 2);
    }

    private static void troubleStays() {
        LastLatch x = Checks.told("lane drafts 0;door a plain;person p");
        Checks.refused(x, "shut(0)", x.shut(0), 5);
        x.feed(0, 0, 0, 0, 0);
        x.fault();
        x.where();
        x.size(99);
        x.trouble();
        x.led(0);
        Checks.throwsNoSuch("led(9)", x, 9);
        Checks.due("trouble() stays by calls that aren't refused", x.trouble(), 5);
        x.choices();
        Checks.due("trouble()", x.trouble(), 0);
    }

    /** Every call that may be refused is refused by 1 without a LANE, whatever else is wrong with it. */
    private static void withoutLane() {
        LastLatch x = new LastLatch();
        Checks.refused(x, "door", x.door(0, 0), 1);
        Checks.refused(x, "person", x.person(0, 0), 1);
        Checks.refused(x, "last", x.last(), 1);
        Checks.refused(x, "can", x.can(0), 1);
        Checks.refused(x, "choices", x.choices(), 1);
        Checks.refused(x, "seen", x.seen(), 1);
        Checks.refused(x, "shutIn", x.shutIn(), 1);
        Checks.refused(x, "errand", x.errand(9), 1);
        Checks.refused(x, "errandAt", x.errandAt(9, 0), 1);
        Checks.refused(x, "shuttings", x.shuttings(9), 1);
        Checks.refused(x, "wayTo", x.wayTo(0, 0), 1);
        Checks.refused(x, "comes", x.comes(0), 1);
        Checks.refused(x, "reach", x.reach(), 1);
        Checks.refused(x, "placings", x.placings(), 1);
        Checks.refused(x, "deepest", x.deepest(), 1);
        Checks.refused(x, "stuckOnes", x.stuckOnes(), 1);
        Checks.refused(x, "rows", x.rows(9), 1);
        Checks.refused(x, "lastBy", x.lastBy(9), 1);
        Checks.refused(x, "firstBy", x.firstBy(0, 9), 1);
        Checks.refused(x, "fewestSeen", x.fewestSeen(), 1);
        Checks.refused(x, "nails", x.nails(0, 0), 1);
        Checks.refused(x, "gets", x.gets(0, 0, 9), 1);
        Checks.refused(x, "opensWith", x.opensWith(0, 0, 9), 1);
        Checks.refused(x, "odds", x.odds(0, 9, true), 1);
        Checks.refused(x, "shutOdds", x.shutOdds(0, 9, true), 1);
        Checks.refused(x, "mean", x.mean(9, true), 1);
        Checks.refused(x, "drafts", x.drafts(-1, 0), 1);
        Checks.refused(x, "stillAt", x.stillAt(-1, 0), 1);
        Checks.refused(x, "open", x.open(0), 1);
        Checks.refused(x, "shut", x.shut(0), 1);
        Checks.refused(x, "go", x.go(0, 0), 1);
        Checks.refused(x, "nail", x.nail(0), 1);
        Checks.refused(x, "spring", x.spring(0), 1);
        Checks.refused(x, "undo", x.undo(), 6);
        Checks.refused(x, "image", x.image(), 1);
        Checks.refused(x, "back", x.back(0), 1);
        Checks.refused(x, "lane", x.lane(1), 2);
    }
}
