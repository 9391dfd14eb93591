/** The boundary cases of promises 22 to 28: rows by what was seen, nails, in and out, sentence by sentence. */
public final class EdgeSeenTest {
    private static final int LEAST = Integer.MIN_VALUE;
    private static final int MOST = Integer.MAX_VALUE;
    private static final String ONE = "lane drafts 0;door a plain;person p";
    private static final String TWO = "lane drafts 0;door a plain;person p;person q";

    public static void main(String[] args) {
        rowsNumbers();
        lastByNumbers();
        firstByNumbers();
        rowsOfNoSteps();
        rowsWithNobody();
        rowsOfNone();
        rowsOfSix();
        mostRows();
        rowsFromTheBeginning();
        fewestSeenEdges();
        nailsNumbers();
        nailsNoneNeeded();
        nailsNotEnough();
        nailsAll();
        nailsLeastBits();
        nailsOnlyShutOnes();
        getsNumbers();
        getsOfFewerThanTwo();
        getsBehindNoMoves();
        getsBehindFour();
        eachByHimself();
        opensWithNumbers();
        opensWithNothing();
        opensWithTheFirst();
        askingChangesNothing();
        withoutALane();
        Checks.finish();
    }

    // ---- promises 22 to 24: "ROWS of n STEPS (0 .. 6)"; "(n 1 .. 6). NONE: 1 (no such number); 2"

    private static void rowsNumbers() {
        LastLatch x = Checks.told(ONE);
        for (int bad : new int[] {-1, 7, 8, LEAST, MOST}) {
            Checks.edge(x, "rows(" + bad + ")", x.rows(bad), -1, 2);
        }
        Checks.edge(x, "rows(0)", x.rows(0), 1, 0);
        Checks.edge(x, "rows(6)", x.rows(6), 8, 0);
    }

    private static void lastByNumbers() {
        LastLatch x = Checks.told(ONE);
        for (int bad : new int[] {-1, 7, 8, LEAST, MOST}) {
            Checks.edge(x, "lastBy(" + bad + ")", x.lastBy(bad), -1, 2);
        }
        Checks.edge(x, "lastBy(0)", x.lastBy(0), 1, 0);
        Checks.edge(x, "lastBy(6)", x.lastBy(6), 1, 0);
    }

    private static void firstByNumbers() {
        LastLatch x = Checks.told(ONE);
        for (int bad : new int[] {-1, 0, 7, LEAST, MOST}) {
            Checks.edge(x, "firstBy(0, " + bad + ")", x.firstBy(0, bad), -1, 2);
            Checks.edge(x, "firstBy(2, " + bad + ")", x.firstBy(2, bad), -1, 2);
        }
        for (int bad : new int[] {-1, 3, 4, LEAST, MOST}) {
            Checks.edge(x, "firstBy(" + bad + ", 1)", x.firstBy(bad, 1), -1, 1);
            Checks.edge(x, "firstBy(" + bad + ", 0)", x.firstBy(bad, 0), -1, 1);
            Checks.edge(x, "firstBy(" + bad + ", 7)", x.firstBy(bad, 7), -1, 1);
        }
        Checks.edge(x, "firstBy(0, 1)", x.firstBy(0, 1), 1, 0);
        Checks.edge(x, "firstBy(0, 6)", x.firstBy(0, 6), 8, 0);
        // a STEP that can't be the first is so by none
        Checks.edge(x, "firstBy(1, 6)", x.firstBy(1, 6), 0, 0);
        Checks.edge(x, "firstBy(2, 6)", x.firstBy(2, 6), 0, 0);
        LastLatch full = Checks.told("lane drafts 0;door a plain;door b plain;door c plain;door d plain;"
            + "ajar a a;ajar d d;last c;person p;person q");
        Checks.edge(full, "firstBy(16, 1)", full.firstBy(16, 1), -1, 1);
        Checks.edge(full, "firstBy(15, 1)", full.firstBy(15, 1), 1, 0);
    }

    /** "behind which all who were seen are where they were seen" */
    private static void rowsOfNoSteps() {
        LastLatch fits = Checks.told(ONE + ";door b plain;last b;seen p lane");
        Checks.edge(fits, "rows(0)", fits.rows(0), 1, 0);
        Checks.edge(fits, "lastBy(0)", fits.lastBy(0), 2, 0);
        LastLatch not = Checks.told(ONE + ";door b plain;last b;seen p b");
        Checks.edge(not, "rows(0)", not.rows(0), 0, 0);
        Checks.edge(not, "lastBy(0)", not.lastBy(0), 0, 0);
        // behind no STEP, though the first STEP that can be done is a going
        LastLatch going = Checks.told("lane drafts 0;door a stuck;door b plain;locked b;last b;ajar a a;person p;seen p lane");
        Checks.due("led(0) of a stuck open one", going.led(0), 4);
        int[] rows = {1, 0, 1, 0, 1, 0, 1};
        for (int n = 0; n <= 6; n++) {
            Checks.edge(going, "rows(" + n + ")", going.rows(n), rows[n], 0);
            Checks.edge(going, "lastBy(" + n + ")", going.lastBy(n), 2 * rows[n], 0);
        }
        LastLatch gone = Checks.told("lane drafts 0;door a stuck;door b plain;locked b;last b;ajar a a;person p;seen p a");
        for (int n = 0; n <= 6; n++) {
            Checks.edge(gone, "rows(" + n + ")", gone.rows(n), 1 - rows[n], 0);
        }
        // both must be there
        LastLatch half = Checks.told(TWO + ";inside q a;seen p lane;seen q lane");
        Checks.edge(half, "rows(0)", half.rows(0), 0, 0);
        LastLatch both = Checks.told(TWO + ";inside q a;seen p lane;seen q a");
        Checks.edge(both, "rows(0)", both.rows(0), 1, 0);
        // who wasn't seen may be anywhere
        LastLatch one = Checks.told(TWO + ";inside q a;seen p lane");
        Checks.edge(one, "rows(0)", one.rows(0), 1, 0);
    }

    private static void rowsWithNobody() {
        LastLatch x = Checks.told("lane drafts 0;door a plain;door b plain;ajar a b;last b");
        Checks.edge(x, "rows(0)", x.rows(0), 1, 0);
        Checks.edge(x, "lastBy(0)", x.lastBy(0), 2, 0);
        for (int n = 1; n <= 6; n++) {
            Checks.edge(x, "rows(" + n + ")", x.rows(n), 0, 0);
            Checks.edge(x, "lastBy(" + n + ")", x.lastBy(n), 0, 0);
            Checks.edge(x, "firstBy(3, " + n + ")", x.firstBy(3, n), 0, 0);
            Checks.edge(x, "firstBy(4, " + n + ")", x.firstBy(4, n), -1, 1);
        }
        Checks.edge(x, "fewestSeen()", x.fewestSeen(), 0, 0);
    }

    private static void rowsOfNone() {
        // shut in for good: there is no row of one STEP at all
        LastLatch x = Checks.told(ONE + ";inside p a;seen p a");
        Checks.edge(x, "rows(0)", x.rows(0), 1, 0);
        Checks.edge(x, "rows(1)", x.rows(1), 0, 0);
        Checks.edge(x, "rows(6)", x.rows(6), 0, 0);
        Checks.edge(x, "lastBy(6)", x.lastBy(6), 0, 0);
    }

    /** OPEN 0, SHUT 1, GO 2. How many rows end out and shut, out and open, in and open, in and shut. */
    private static void rowsOfSix() {
        LastLatch x = Checks.told(ONE + ";seen p lane");
        LastLatch y = Checks.told(ONE + ";seen p a");
        int shut = 1;
        int open = 0;
        int in = 0;
        int shutIn = 0;
        for (int n = 0; n <= 6; n++) {
            Checks.edge(x, "rows(" + n + ") in the lane", x.rows(n), shut + open, 0);
            Checks.edge(y, "rows(" + n + ") in the ROOM", y.rows(n), in + shutIn, 0);
            int nextOpen = shut + in;
            int nextIn = open;
            int nextShutIn = in;
            shut = open;
            open = nextOpen;
            in = nextIn;
            shutIn = nextShutIn;
        }
    }

    /** Stuck open doors leave as many STEPS each time: two people go by four doors in 8 ways, or back. */
    private static void mostRows() {
        LastLatch x = Checks.told("lane drafts 0;door a stuck;door b stuck;door c stuck;door d stuck;"
            + "ajar a a;ajar b a;ajar c a;ajar d a;person p;person q");
        int due = 1;
        for (int n = 0; n <= 6; n++) {
            Checks.edge(x, "rows(" + n + ")", x.rows(n), due, 0);
            due *= 8;
        }
        Checks.edge(x, "firstBy(15, 6)", x.firstBy(15, 6), 32768, 0);
        Checks.edge(x, "firstBy(0, 6)", x.firstBy(0, 6), 0, 0);
        // the most that there are: 12 STEPS at the beginning
        LastLatch y = Checks.told("lane drafts 0;door a plain;door b plain;door c plain;door d plain;"
            + "ajar a a;ajar b a;ajar c a;ajar d a;person p;person q");
        Checks.edge(y, "rows(1)", y.rows(1), 12, 0);
        // behind a shutting 10 (one opened again, three shut, six goings), behind a going 12
        Checks.edge(y, "rows(2)", y.rows(2), 4 * 10 + 8 * 12, 0);
        Checks.edge(y, "lastBy(6)", y.lastBy(6), 15, 0);
    }

    /** "from the beginning, as told at first": whatever was done since. */
    private static void rowsFromTheBeginning() {
        LastLatch x = Checks.told(ONE + ";seen p a");
        x.spring(0);
        x.open(0);
        x.go(0, 0);
        x.nail(0);
        int[] due = {0, 0, 1, 1, 2, 2, 4};
        for (int n = 6; n >= 0; n--) {
            Checks.edge(x, "rows(" + n + ")", x.rows(n), due[n], 0);
        }
        Checks.edge(x, "firstBy(0, 3)", x.firstBy(0, 3), 1, 0);
        x.image();
        x.back(0);
        Checks.edge(x, "fewestSeen()", x.fewestSeen(), 2, 0);
        // a faulty text leaves the LANE's rows, a new one has its own
        Checks.tell(x, "lane drafts 5;");
        Checks.edge(x, "rows(2)", x.rows(2), 1, 0);
        Checks.tell(x, ONE + ";seen p lane");
        Checks.edge(x, "rows(0)", x.rows(0), 1, 0);
        Checks.edge(x, "firstBy(0, 1)", x.firstBy(0, 1), 1, 0);
        // of the new one no STEP can be done: none is the first one by any row
        Checks.tell(x, ONE + ";locked a;seen p lane");
        for (int n = 1; n <= 6; n++) {
            Checks.edge(x, "rows(" + n + ")", x.rows(n), 0, 0);
            Checks.edge(x, "lastBy(" + n + ")", x.lastBy(n), 0, 0);
            for (int step = 0; step < 3; step++) {
                Checks.edge(x, "firstBy(" + step + ", " + n + ")", x.firstBy(step, n), 0, 0);
            }
        }
    }

    // ---- promise 25: "(0 .. 6) .. -2 none of six or fewer"

    private static void fewestSeenEdges() {
        LastLatch none = Checks.told(ONE + ";seen p lane");
        Checks.edge(none, "fewestSeen()", none.fewestSeen(), 0, 0);
        LastLatch six = Checks.told("lane drafts 0;door a plain;door b plain;person p;person q;inside p b;seen p a");
        Checks.edge(six, "fewestSeen()", six.fewestSeen(), 6, 0);
        Checks.edge(six, "wayTo(0, 1)", six.wayTo(0, 1), 6, 0);
        // q, too, must have come to b's: a seventh STEP
        LastLatch seven = Checks.told("lane drafts 0;door a plain;door b plain;person p;person q;inside p b;"
            + "seen p a;seen q b;wants p a;wants q b");
        Checks.edge(seven, "errand(0)", seven.errand(0), 7, 0);
        Checks.edge(seven, "fewestSeen()", seven.fewestSeen(), -2, 0);
        Checks.edge(seven, "rows(6)", seven.rows(6), 0, 0);
        LastLatch never = Checks.told(ONE + ";locked a;seen p a");
        Checks.edge(never, "fewestSeen()", never.fewestSeen(), -2, 0);
    }

    // ---- promise 26: "-2 all aren't enough. NONE: 1 (no such person, no such ROOM: a door's number)"

    private static void nailsNumbers() {
        LastLatch x = Checks.told("lane drafts 0;door a plain;door b plain;person p");
        for (int bad : new int[] {-1, 1, 2, LEAST, MOST}) {
            Checks.edge(x, "nails(" + bad + ", 0)", x.nails(bad, 0), -1, 1);
        }
        for (int bad : new int[] {-1, 2, 3, LEAST, MOST}) {
            Checks.edge(x, "nails(0, " + bad + ")", x.nails(0, bad), -1, 1);
        }
        Checks.edge(x, "nails(0, 0)", x.nails(0, 0), 3, 0);
        Checks.edge(x, "nails(0, 1)", x.nails(0, 1), 2, 0);
        LastLatch nobody = Checks.told("lane drafts 0;door a plain");
        Checks.edge(nobody, "nails(0, 0) of nobody", nobody.nails(0, 0), -1, 1);
    }

    private static void nailsNoneNeeded() {
        LastLatch x = Checks.told(ONE + ";locked a");
        Checks.edge(x, "nails(0, 0), locked", x.nails(0, 0), 0, 0);
        LastLatch y = Checks.told(ONE);
        y.nail(0);
        Checks.edge(y, "nails(0, 0), nailed already", y.nails(0, 0), 0, 0);
        LastLatch z = Checks.told(ONE + ";door b plain;inside p b");
        Checks.edge(z, "nails(0, 0), shut in", z.nails(0, 0), 0, 0);
    }

    private static void nailsNotEnough() {
        LastLatch there = Checks.told(ONE + ";inside p a");
        Checks.edge(there, "nails(0, 0), there already", there.nails(0, 0), -2, 0);
        LastLatch led = Checks.told(ONE + ";door b plain;last b;ajar a b");
        Checks.edge(led, "nails(0, 1), an open door leads there", led.nails(0, 1), -2, 0);
        // no door is shut: he shuts the open one, which leads to a's then
        LastLatch open = Checks.told(ONE + ";door b plain;ajar a b;ajar b b");
        Checks.edge(open, "nails(0, 0), none can be nailed", open.nails(0, 0), -2, 0);
    }

    private static void nailsAll() {
        LastLatch x = Checks.told("lane drafts 0;door a plain;door b plain;door c plain;door d plain;person p");
        Checks.edge(x, "nails(0, 0)", x.nails(0, 0), 15, 0);
        Checks.edge(x, "nails(0, 3)", x.nails(0, 3), 8, 0);
    }

    /** "of like ones the least bits" */
    private static void nailsLeastBits() {
        // p needs q's help by the heavy b; q is behind a's: either nailed keeps him from b's
        LastLatch x = Checks.told("lane drafts 0;door a plain;door b heavy;person p;person q;inside q a");
        Checks.edge(x, "nails(0, 1)", x.nails(0, 1), 1, 0);
        x.nail(0);
        Checks.edge(x, "nails(0, 1), a nailed already", x.nails(0, 1), 0, 0);
        // fewer doors are ahead of less bits: d alone (8) ahead of a, b, c (7)
        LastLatch y = Checks.told("lane drafts 0;door a plain;door b plain;door c plain;door d plain;person p");
        Checks.edge(y, "nails(0, 3)", y.nails(0, 3), 8, 0);
    }

    private static void nailsOnlyShutOnes() {
        // b is open to a's: it leads there unless all are kept from going; it can't be nailed
        LastLatch x = Checks.told("lane drafts 0;door a plain;door b plain;last a;ajar b a;person p");
        Checks.edge(x, "nails(0, 0)", x.nails(0, 0), -2, 0);
        // to b's: shut b, then it is LAST; a or b opens to b's: b can't be nailed, so nothing is enough
        Checks.edge(x, "nails(0, 1)", x.nails(0, 1), -2, 0);
    }

    // ---- promise 27: "NONE: 1 (no such person, ROOM; fewer than two people); 2"; n 0 .. 4

    private static void getsNumbers() {
        LastLatch x = Checks.told(TWO);
        for (int bad : new int[] {-1, 2, 3, LEAST, MOST}) {
            Checks.edge(x, "gets(" + bad + ", 0, 1)", x.gets(bad, 0, 1), -1, 1);
            Checks.edge(x, "gets(" + bad + ", 0, 5)", x.gets(bad, 0, 5), -1, 1);
        }
        for (int bad : new int[] {-1, 1, 2, LEAST, MOST}) {
            Checks.edge(x, "gets(0, " + bad + ", 1)", x.gets(0, bad, 1), -1, 1);
            Checks.edge(x, "gets(0, " + bad + ", -1)", x.gets(0, bad, -1), -1, 1);
        }
        for (int bad : new int[] {-1, 5, 6, LEAST, MOST}) {
            Checks.edge(x, "gets(0, 0, " + bad + ")", x.gets(0, 0, bad), -1, 2);
        }
        Checks.edge(x, "gets(0, 0, 0)", x.gets(0, 0, 0), 0, 0);
        Checks.edge(x, "gets(1, 0, 4)", x.gets(1, 0, 4), 0, 0);
    }

    private static void getsOfFewerThanTwo() {
        LastLatch one = Checks.told(ONE + ";inside p a");
        LastLatch nobody = Checks.told("lane drafts 0;door a plain");
        for (int n : new int[] {-1, 0, 1, 4, 5}) {
            Checks.edge(one, "gets(0, 0, " + n + ") of one", one.gets(0, 0, n), -1, 1);
            Checks.edge(one, "opensWith(0, 0, " + n + ") of one", one.opensWith(0, 0, n), -1, 1);
            Checks.edge(nobody, "gets(0, 0, " + n + ") of nobody", nobody.gets(0, 0, n), -1, 1);
            Checks.edge(nobody, "opensWith(0, 0, " + n + ") of nobody", nobody.opensWith(0, 0, n), -1, 1);
        }
    }

    private static void getsBehindNoMoves() {
        LastLatch x = Checks.told(TWO + ";inside q a");
        Checks.edge(x, "gets(0, 0, 0)", x.gets(0, 0, 0), 0, 0);
        Checks.edge(x, "gets(1, 0, 0), there already", x.gets(1, 0, 0), 1, 0);
    }

    private static void getsBehindFour() {
        // a stuck door, once open, can't be shut: open, nothing, go, nothing
        LastLatch x = Checks.told("lane drafts 0;door a stuck;person p;person q");
        int[] due = {0, 0, 0, 1, 1};
        for (int n = 0; n <= 4; n++) {
            Checks.edge(x, "gets(0, 0, " + n + ")", x.gets(0, 0, n), due[n], 0);
        }
        // by a plain one, with q in the lane, q shuts it
        LastLatch y = Checks.told(TWO);
        for (int n = 0; n <= 4; n++) {
            Checks.edge(y, "gets(0, 0, " + n + ")", y.gets(0, 0, n), 0, 0);
        }
    }

    /** "each does a STEP he can by himself (OPEN, SHUT as if he alone were there; GO himself), or nothing" */
    private static void eachByHimself() {
        // two could open a heavy door, one can't
        LastLatch heavy = Checks.told("lane drafts 0;door a heavy;person p;person q");
        Checks.edge(heavy, "can(0)", heavy.can(0), 1, 0);
        Checks.edge(heavy, "gets(0, 0, 4)", heavy.gets(0, 0, 4), 0, 0);
        // the other one's key is of no use to him
        LastLatch key = Checks.told("lane drafts 0;door a stuck;locked a;person p;person q;key q");
        Checks.edge(key, "gets(0, 0, 4)", key.gets(0, 0, 4), 0, 0);
        Checks.edge(key, "gets(1, 0, 4)", key.gets(1, 0, 4), 1, 0);
        // nor can he shut from a ROOM in which only the other one is: q is behind b and can't shut a
        LastLatch far = Checks.told(TWO + ";door b plain;inside q b");
        Checks.edge(far, "gets(0, 0, 3)", far.gets(0, 0, 3), 1, 0);
        // the one can't move the other one out of the way, nor need the other one move: he does nothing
        LastLatch in = Checks.told("lane drafts 0;door a stuck;ajar a a;person p;person q;inside p a");
        for (int n = 0; n <= 4; n++) {
            Checks.edge(in, "gets(0, 0, " + n + "), he stays", in.gets(0, 0, n), 1, 0);
        }
    }

    // ---- promise 28: "-2 nothing does, too, or he doesn't. NONE: likewise; 2 (1 .. 4)"

    private static void opensWithNumbers() {
        LastLatch x = Checks.told(TWO);
        for (int bad : new int[] {-1, 0, 5, 6, LEAST, MOST}) {
            Checks.edge(x, "opensWith(0, 0, " + bad + ")", x.opensWith(0, 0, bad), -1, 2);
        }
        for (int bad : new int[] {-1, 2, LEAST, MOST}) {
            Checks.edge(x, "opensWith(" + bad + ", 0, 1)", x.opensWith(bad, 0, 1), -1, 1);
            Checks.edge(x, "opensWith(" + bad + ", 0, 0)", x.opensWith(bad, 0, 0), -1, 1);
        }
        for (int bad : new int[] {-1, 1, LEAST, MOST}) {
            Checks.edge(x, "opensWith(0, " + bad + ", 1)", x.opensWith(0, bad, 1), -1, 1);
            Checks.edge(x, "opensWith(0, " + bad + ", 5)", x.opensWith(0, bad, 5), -1, 1);
        }
        Checks.edge(x, "opensWith(0, 0, 1)", x.opensWith(0, 0, 1), -2, 0);
        Checks.edge(x, "opensWith(1, 0, 4)", x.opensWith(1, 0, 4), -2, 0);
    }

    private static void opensWithNothing() {
        // a stuck one open: behind three moves he may wait, behind one or two he may not
        LastLatch x = Checks.told("lane drafts 0;door a stuck;ajar a a;person p;person q");
        int[] due = {2, 2, -2, -2};
        for (int n = 1; n <= 4; n++) {
            Checks.edge(x, "gets(0, 0, " + n + ")", x.gets(0, 0, n), 1, 0);
            Checks.edge(x, "opensWith(0, 0, " + n + ")", x.opensWith(0, 0, n), due[n - 1], 0);
        }
        // he doesn't get in at all
        LastLatch y = Checks.told(TWO + ";locked a");
        Checks.edge(y, "opensWith(0, 0, 4)", y.opensWith(0, 0, 4), -2, 0);
    }

    private static void opensWithTheFirst() {
        // both lead to c's: by a (6) or by b (7)
        LastLatch x = Checks.told("lane drafts 0;door a stuck;door b stuck;door c plain;last c;ajar a c;ajar b c;"
            + "person p;person q");
        Checks.edge(x, "opensWith(0, 2, 1)", x.opensWith(0, 2, 1), 6, 0);
        Checks.edge(x, "opensWith(1, 2, 1)", x.opensWith(1, 2, 1), 9, 0);
        // OPEN is numbered ahead of GO
        LastLatch y = Checks.told("lane drafts 0;door a stuck;door b stuck;person p;person q");
        Checks.edge(y, "opensWith(0, 0, 3)", y.opensWith(0, 0, 3), 0, 0);
    }

    private static void askingChangesNothing() {
        LastLatch x = Checks.told(TWO + ";door b spring;inside q b;seen p a;seen q lane");
        x.open(0);
        String before = Checks.picture(x);
        x.rows(6);
        x.lastBy(5);
        x.firstBy(0, 4);
        x.fewestSeen();
        x.nails(0, 1);
        x.gets(0, 1, 4);
        x.opensWith(1, 0, 4);
        x.rows(7);
        x.nails(2, 2);
        x.gets(0, 0, 9);
        Checks.same("questions", before, x);
    }

    /** "NONE: 1 (no LANE)", ahead of a number that is wrong, too. */
    private static void withoutALane() {
        LastLatch x = new LastLatch();
        for (int any : new int[] {LEAST, -1, 0, 1, 6, 7, MOST}) {
            Checks.edge(x, "rows(" + any + ")", x.rows(any), -1, 1);
            Checks.edge(x, "lastBy(" + any + ")", x.lastBy(any), -1, 1);
            Checks.edge(x, "firstBy(" + any + ", 1)", x.firstBy(any, 1), -1, 1);
            Checks.edge(x, "firstBy(0, " + any + ")", x.firstBy(0, any), -1, 1);
            Checks.edge(x, "nails(" + any + ", 0)", x.nails(any, 0), -1, 1);
            Checks.edge(x, "nails(0, " + any + ")", x.nails(0, any), -1, 1);
            Checks.edge(x, "gets(0, 0, " + any + ")", x.gets(0, 0, any), -1, 1);
            Checks.edge(x, "gets(" + any + ", 0, 1)", x.gets(any, 0, 1), -1, 1);
            Checks.edge(x, "opensWith(0, 0, " + any + ")", x.opensWith(0, 0, any), -1, 1);
            Checks.edge(x, "opensWith(0, " + any + ", 1)", x.opensWith(0, any, 1), -1, 1);
        }
        Checks.edge(x, "fewestSeen()", x.fewestSeen(), -1, 1);
    }
}
