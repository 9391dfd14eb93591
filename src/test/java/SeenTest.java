/** Promises 22 to 25: rows of STEPS from the beginning that fit what was seen. */
public final class SeenTest {
    public static void main(String[] args) {
        oneDoor();
        nobodySeen();
        seenBehindIt();
        neverSeen();
        manyRows();
        fromTheBeginning();
        refusals();
        Checks.finish();
    }

    /** OPEN 0, SHUT 1, GO 2; p was seen in the lane. */
    private static void oneDoor() {
        LastLatch x = Checks.told("lane drafts 0;door a plain;person p;seen p lane");
        // 0; 1: open; 2: open, shut; 3: open, shut, open or open, go, go
        int[] due = {1, 1, 1, 2};
        for (int n = 0; n < due.length; n++) {
            Checks.granted(x, "rows(" + n + ")", x.rows(n), due[n]);
            Checks.granted(x, "lastBy(" + n + ")", x.lastBy(n), 1);
        }
        Checks.granted(x, "firstBy(0, 3)", x.firstBy(0, 3), 2);
        Checks.granted(x, "firstBy(1, 3)", x.firstBy(1, 3), 0);
        Checks.granted(x, "firstBy(2, 1)", x.firstBy(2, 1), 0);
        Checks.granted(x, "firstBy(0, 1)", x.firstBy(0, 1), 1);
        Checks.granted(x, "fewestSeen()", x.fewestSeen(), 0);
    }

    private static void nobodySeen() {
        LastLatch x = Checks.told("lane drafts 0;door a plain;person p");
        // from open: shut, go; from inside, open: shut (then nothing), go
        int[] due = {1, 1, 2, 3, 4, 6, 8};
        for (int n = 0; n < due.length; n++) {
            Checks.granted(x, "rows(" + n + ")", x.rows(n), due[n]);
        }
        LastLatch y = Checks.told("lane drafts 0;door a plain");
        Checks.granted(y, "rows(0)", y.rows(0), 1);
        Checks.granted(y, "rows(1)", y.rows(1), 0);
        Checks.granted(y, "lastBy(1)", y.lastBy(1), 0);
        Checks.granted(y, "fewestSeen()", y.fewestSeen(), 0);
    }

    private static void seenBehindIt() {
        LastLatch x = Checks.told("lane drafts 0;door a plain;door b plain;person p;seen p b");
        // OPEN 0 1, SHUT 2 3, GO 4 5: only open b, shut b, open a or b, go by it
        int[] due = {0, 0, 0, 0, 2};
        for (int n = 0; n < due.length; n++) {
            Checks.granted(x, "rows(" + n + ")", x.rows(n), due[n]);
        }
        Checks.granted(x, "firstBy(1, 4)", x.firstBy(1, 4), 2);
        Checks.granted(x, "firstBy(0, 4)", x.firstBy(0, 4), 0);
        Checks.granted(x, "lastBy(4)", x.lastBy(4), 2);
        Checks.granted(x, "lastBy(3)", x.lastBy(3), 0);
        Checks.granted(x, "fewestSeen()", x.fewestSeen(), 4);
    }

    private static void neverSeen() {
        LastLatch x = Checks.told("lane drafts 0;door a plain;person p;inside p a;seen p lane");
        for (int n = 0; n <= 6; n++) {
            Checks.granted(x, "rows(" + n + ")", x.rows(n), 0);
            Checks.granted(x, "lastBy(" + n + ")", x.lastBy(n), 0);
        }
        Checks.granted(x, "fewestSeen()", x.fewestSeen(), -2);
        // q opens a and b to a's ROOM, shuts b, opens it to b's; p comes out by it, goes in by a
        LastLatch six = Checks.told("lane drafts 0;door a plain;door b plain;person p;person q;inside p b;seen p a");
        Checks.granted(six, "fewestSeen()", six.fewestSeen(), 6);
        Checks.granted(six, "rows(5)", six.rows(5), 0);
        Checks.due("rows(6)", six.rows(6) > 0, true);
        // p has the key to a: it takes him eight
        LastLatch eight = Checks.told("lane drafts 0;door a plain;door b plain;locked a;person p;person q;key p;"
            + "inside p b;seen p a");
        Checks.granted(eight, "wayTo(0, 1)", eight.wayTo(0, 1), 8);
        Checks.granted(eight, "rows(6)", eight.rows(6), 0);
        Checks.granted(eight, "fewestSeen()", eight.fewestSeen(), -2);
    }

    private static void manyRows() {
        LastLatch x = Checks.told("lane drafts 0;door a plain;door b plain;door c plain;door d plain;"
            + "ajar b a;ajar c a;ajar d a;person p;person q");
        long sum = 0;
        for (int step = 0; step < 16; step++) {
            int by = x.firstBy(step, 6);
            sum += by;
            Checks.due("can and first " + step, by > 0, x.can(step) == 1);
        }
        Checks.granted(x, "rows(6)", x.rows(6), sum);
        // a can be opened, three shut, each of two goes by three
        Checks.granted(x, "rows(1)", x.rows(1), 10);
        Checks.granted(x, "lastBy(1)", x.lastBy(1), 15);
        Checks.granted(x, "lastBy(0)", x.lastBy(0), 1);
    }

    private static void fromTheBeginning() {
        LastLatch x = Checks.told("lane drafts 0;door a plain;person p;seen p a");
        Checks.granted(x, "rows(2)", x.rows(2), 1);
        x.nail(0);
        x.spring(0);
        Checks.granted(x, "rows(3)", x.rows(3), 1);
        Checks.granted(x, "fewestSeen()", x.fewestSeen(), 2);
        LastLatch y = Checks.told("lane drafts 0;door a plain;person p;seen p a");
        y.spring(0);
        y.open(0);
        y.go(0, 0);
        // open, go, shut: as told at first the door isn't a spring one
        Checks.granted(y, "rows(3)", y.rows(3), 1);
        Checks.granted(y, "rows(0)", y.rows(0), 0);
        Checks.granted(y, "firstBy(0, 2)", y.firstBy(0, 2), 1);
        // a new lane, new rows
        Checks.tell(y, "lane drafts 0;door a spring;person p;seen p a");
        Checks.granted(y, "rows(2)", y.rows(2), 1);
        Checks.granted(y, "rows(3)", y.rows(3), 0);
        Checks.granted(y, "firstBy(0, 2)", y.firstBy(0, 2), 1);
        Checks.tell(y, "lane drafts 0;door a spring;ajar a a;person p;seen p a");
        Checks.granted(y, "firstBy(0, 2)", y.firstBy(0, 2), 0);
        Checks.granted(y, "firstBy(2, 1)", y.firstBy(2, 1), 1);
    }

    private static void refusals() {
        LastLatch x = Checks.told("lane drafts 0;door a plain;person p");
        for (int n : new int[] {-1, 7, Integer.MAX_VALUE, Integer.MIN_VALUE}) {
            Checks.refused(x, "rows(" + n + ")", x.rows(n), 2);
            Checks.refused(x, "lastBy(" + n + ")", x.lastBy(n), 2);
            Checks.refused(x, "firstBy(0, " + n + ")", x.firstBy(0, n), 2);
            Checks.refused(x, "firstBy(3, " + n + ")", x.firstBy(3, n), 1);
        }
        Checks.refused(x, "firstBy(0, 0)", x.firstBy(0, 0), 2);
        Checks.refused(x, "firstBy(3, 1)", x.firstBy(3, 1), 1);
        Checks.refused(x, "firstBy(-1, 1)", x.firstBy(-1, 1), 1);
    }
}
