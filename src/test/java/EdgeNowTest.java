/** The boundary cases of Terms II (the STEPS) and of promises 6 to 12, 45, 46 and 47, sentence by sentence. */
public final class EdgeNowTest {
    private static final int LEAST = Integer.MIN_VALUE;
    private static final int MOST = Integer.MAX_VALUE;
    private static final String FULL = "lane drafts 100;door a plain;door b spring;door c heavy;door d stuck;"
        + "person p;person q;locked a;locked b;locked c;locked d;ajar a d;ajar b d;ajar c c;ajar d d;"
        + "inside p d;inside q d;key p;key q;home p d;home q a;wants p lane;wants q d;seen p lane;seen q d";
    private static final String LEAN = "lane drafts 0;door a plain";

    public static void main(String[] args) {
        doorNumbers();
        doorAnswers();
        personNumbers();
        personAnswers();
        lastAndTheFirstOne();
        stepNumbers();
        openSteps();
        openLeadsToTheLast();
        shutSteps();
        goSteps();
        choicesNoneAndMost();
        seenNoneAndAll();
        shutInNoneAndAll();
        withoutALane();
        ledNumbers();
        sizeNumbers();
        sizesAsTold();
        troubleOfTheLatest();
        Checks.finish();
    }

    // ---- promise 6: "NONE: 1"

    private static void doorNumbers() {
        LastLatch x = Checks.told(FULL);
        for (int bad : new int[] {-1, 4, 5, LEAST, MOST}) {
            Checks.edge(x, "door(" + bad + ", 0)", x.door(bad, 0), -1, 1);
            Checks.edge(x, "door(" + bad + ", 6)", x.door(bad, 6), -1, 1);
        }
        for (int bad : new int[] {-1, 6, 7, LEAST, MOST}) {
            Checks.edge(x, "door(0, " + bad + ")", x.door(0, bad), -1, 1);
            Checks.edge(x, "door(3, " + bad + ")", x.door(3, bad), -1, 1);
        }
        Checks.edge(x, "door(0, 0)", x.door(0, 0), 0, 0);
        Checks.edge(x, "door(3, 5)", x.door(3, 5), 0, 0);
        LastLatch one = Checks.told(LEAN);
        Checks.edge(one, "door(1, 0) of one", one.door(1, 0), -1, 1);
        Checks.edge(one, "door(0, 5) of one", one.door(0, 5), 1, 0);
    }

    private static void doorAnswers() {
        LastLatch x = Checks.told(FULL);
        int[][] due = {{0, 4, 1, 0, 0, 1}, {1, 4, 1, 0, 0, 0}, {2, 3, 1, 0, 0, 0}, {3, 4, 1, 0, 3, 0}};
        for (int d = 0; d < 4; d++) {
            for (int what = 0; what <= 5; what++) {
                Checks.edge(x, "door(" + d + ", " + what + ")", x.door(d, what), due[d][what], 0);
            }
        }
        LastLatch lean = Checks.told(LEAN);
        int[] none = {0, 0, 0, 0, 0, 1};
        for (int what = 0; what <= 5; what++) {
            Checks.edge(lean, "door(0, " + what + ")", lean.door(0, what), none[what], 0);
        }
        // "KIND NOW": as by SPRING, not as told
        lean.spring(0);
        lean.nail(0);
        Checks.edge(lean, "door(0, 0)", lean.door(0, 0), 1, 0);
        Checks.edge(lean, "door(0, 3)", lean.door(0, 3), 1, 0);
        // of four doors each has its own nail, and its own bit of LAST
        LastLatch nails = Checks.told("lane drafts 0;door a plain;door b spring;door c heavy;door d stuck;last d");
        int nailed = 0;
        for (int next : new int[] {3, 1, 2, 0}) {
            nails.nail(next);
            nailed |= 1 << next;
            for (int d = 0; d < 4; d++) {
                Checks.edge(nails, "door(" + d + ", 3)", nails.door(d, 3), nailed >> d & 1, 0);
                Checks.edge(nails, "door(" + d + ", 5)", nails.door(d, 5), d == 3 ? 1 : 0, 0);
                Checks.edge(nails, "door(" + d + ", 0)", nails.door(d, 0), d, 0);
            }
        }
        // people in its own ROOM, not in that to which it leads
        LastLatch y = Checks.told("lane drafts 0;door a plain;door b plain;ajar a b;person p;inside p b");
        Checks.edge(y, "door(0, 4)", y.door(0, 4), 0, 0);
        Checks.edge(y, "door(1, 4)", y.door(1, 4), 1, 0);
    }

    // ---- promise 7: "NONE: 1"

    private static void personNumbers() {
        LastLatch x = Checks.told(FULL);
        for (int bad : new int[] {-1, 2, 3, LEAST, MOST}) {
            Checks.edge(x, "person(" + bad + ", 0)", x.person(bad, 0), -1, 1);
            Checks.edge(x, "person(" + bad + ", 5)", x.person(bad, 5), -1, 1);
        }
        for (int bad : new int[] {-1, 5, 6, LEAST, MOST}) {
            Checks.edge(x, "person(0, " + bad + ")", x.person(0, bad), -1, 1);
            Checks.edge(x, "person(1, " + bad + ")", x.person(1, bad), -1, 1);
        }
        LastLatch nobody = Checks.told(LEAN);
        Checks.edge(nobody, "person(0, 0) of none", nobody.person(0, 0), -1, 1);
        LastLatch one = Checks.told(LEAN + ";person p");
        Checks.edge(one, "person(0, 0) of one", one.person(0, 0), 0, 0);
        Checks.edge(one, "person(1, 0) of one", one.person(1, 0), -1, 1);
    }

    private static void personAnswers() {
        LastLatch x = Checks.told(FULL);
        int[][] due = {{4, 1, 4, 0, 0}, {4, 1, 1, 4, 4}};
        for (int p = 0; p < 2; p++) {
            for (int what = 0; what <= 4; what++) {
                Checks.edge(x, "person(" + p + ", " + what + ")", x.person(p, what), due[p][what], 0);
            }
        }
        // -2 is an answer, no refusal
        LastLatch y = Checks.told(LEAN + ";person p");
        int[] none = {0, 0, -2, -2, -2};
        for (int what = 0; what <= 4; what++) {
            Checks.edge(y, "person(0, " + what + ")", y.person(0, what), none[what], 0);
        }
    }

    // ---- promise 8

    private static void lastAndTheFirstOne() {
        LastLatch x = Checks.told(LEAN + ";door b plain;door c plain;door d plain");
        Checks.edge(x, "last() where none is told", x.last(), 0, 0);
        LastLatch y = Checks.told(LEAN + ";door b plain;door c plain;door d plain;last d");
        Checks.edge(y, "last() told", y.last(), 3, 0);
        LastLatch z = Checks.told(FULL);
        Checks.edge(z, "last(), though it is open", z.last(), 0, 0);
    }

    // ---- promise 9: "NONE: 1 (no such number)"

    private static void stepNumbers() {
        int[] counts = {2, 3, 4};
        String people = "";
        for (int howMany = 0; howMany <= 2; howMany++) {
            String doors = "lane drafts 0";
            for (int d = 1; d <= 4; d++) {
                doors += ";door " + "abcd".charAt(d - 1) + " plain";
                LastLatch x = Checks.told(doors + people);
                int steps = d * counts[howMany];
                Checks.edge(x, "can(" + steps + ")", x.can(steps), -1, 1);
                Checks.edge(x, "can(" + (steps - 1) + ")", x.can(steps - 1), 0, 0);
                Checks.edge(x, "can(0)", x.can(0), howMany > 0 ? 1 : 0, 0);
                for (int bad : new int[] {-1, steps + 1, LEAST, MOST}) {
                    Checks.edge(x, "can(" + bad + ")", x.can(bad), -1, 1);
                }
            }
            people += ";person " + "pq".charAt(howMany % 2);
        }
    }

    private static void steps(String text, int... can) {
        LastLatch x = Checks.told(text);
        for (int step = 0; step < x.size(1) * (2 + x.size(2)); step++) {
            int due = 0;
            for (int one : can) {
                due |= one == step ? 1 : 0;
            }
            Checks.edge(x, "can(" + step + ") of " + text, x.can(step), due, 0);
        }
        Checks.edge(x, "choices() of " + text, x.choices(), can.length, 0);
        for (int i = 0; i < can.length; i++) {
            Checks.due("led(" + i + ") of " + text, x.led(i), can[i]);
        }
        Checks.throwsNoSuch("led(" + can.length + ") of " + text, x, can.length);
    }

    // ---- terms II: "OPEN .. it is shut, not nailed; somebody is in the lane (two, if it is heavy; one with a key ..)"

    private static void openSteps() {
        steps("lane drafts 0;door a plain");
        steps("lane drafts 0;door a plain;person p", 0);
        steps("lane drafts 0;door a plain;person p;inside p a");
        steps("lane drafts 0;door a plain;person p;person q;inside p a", 0);
        steps("lane drafts 0;door a stuck;person p", 0);
        steps("lane drafts 0;door a spring;person p", 0);
        steps("lane drafts 0;door a heavy;person p");
        steps("lane drafts 0;door a heavy;person p;person q", 0);
        steps("lane drafts 0;door a heavy;person p;person q;inside q a");
        steps("lane drafts 0;door a plain;locked a;person p");
        steps("lane drafts 0;door a plain;locked a;person p;key p", 0);
        steps("lane drafts 0;door a plain;locked a;person p;person q;key q", 0);
        steps("lane drafts 0;door a plain;locked a;person p;person q;key q;inside q a");
        steps("lane drafts 0;door a heavy;locked a;person p;person q");
        steps("lane drafts 0;door a heavy;locked a;person p;person q;key q", 0);
        steps("lane drafts 0;door a heavy;locked a;person p;key p");
        // an open one isn't opened again; it can be shut and gone through, locked or not, with a key or not
        steps("lane drafts 0;door a plain;locked a;ajar a a;person p", 1, 2);
        LastLatch x = Checks.told("lane drafts 0;door a plain;person p");
        x.nail(0);
        Checks.edge(x, "can(0), nailed", x.can(0), 0, 0);
        Checks.edge(x, "choices()", x.choices(), 0, 0);
    }

    private static void openLeadsToTheLast() {
        LastLatch x = Checks.told("lane drafts 0;door a plain;door b plain;last b;person p");
        Checks.edge(x, "open(1), the LAST itself", x.open(1), 2, 0);
        Checks.edge(x, "open(0), to the ROOM of an open one", x.open(0), 2, 0);
        Checks.edge(x, "last() stays", x.last(), 1, 0);
        x.shut(0);
        Checks.edge(x, "the other one leads where it did", x.door(1, 1), 2, 0);
        Checks.edge(x, "open(0), the LAST now", x.open(0), 1, 0);
    }

    // ---- terms II: "SHUT .. it is open, not stuck; somebody is in the lane or in the ROOM to which it leads"

    private static void shutSteps() {
        steps("lane drafts 0;door a plain;ajar a a");
        steps("lane drafts 0;door a plain;ajar a a;person p", 1, 2);
        steps("lane drafts 0;door a plain;ajar a a;person p;inside p a", 1, 2);
        steps("lane drafts 0;door a stuck;ajar a a;person p", 2);
        steps("lane drafts 0;door a heavy;ajar a a;person p", 1, 2);
        // in b's ROOM, to which a leads: a can be shut from there; b, which leads to a's, can't
        steps("lane drafts 0;door a plain;door b plain;ajar a b;ajar b a;person p;inside p b", 2, 4);
        // in a's ROOM, to which no door leads
        steps("lane drafts 0;door a plain;door b plain;ajar a b;ajar b b;person p;inside p a");
        // either of both is enough
        steps("lane drafts 0;door a plain;door b plain;last b;ajar a b;person p;person q;inside p a", 1, 2, 6);
    }

    // ---- terms II: "GO .. A spring door shuts behind him then (it is LAST)"

    private static void goSteps() {
        steps("lane drafts 0;door a stuck;door b stuck;ajar a b;ajar b b;person p;inside p b", 4, 5);
        steps("lane drafts 0;door a stuck;door b stuck;last b;ajar a b;person p;person q;inside q a", 1, 4);
        LastLatch x = Checks.told("lane drafts 0;door a spring;door b plain;last b;ajar a b;person p;person q;inside q b");
        Checks.edge(x, "go(1, 0), out by a spring door", x.go(1, 0), 0, 0);
        Checks.edge(x, "door(0, 1)", x.door(0, 1), 0, 0);
        Checks.edge(x, "last()", x.last(), 0, 0);
        Checks.edge(x, "go(0, 0), shut behind the other one", x.go(0, 0), -1, 5);
        x.open(0);
        Checks.edge(x, "go(0, 0), in by a spring door", x.go(0, 0), 1, 0);
        Checks.edge(x, "door(0, 1)", x.door(0, 1), 0, 0);
        Checks.edge(x, "last() is the same again", x.last(), 0, 0);
        // a plain one stays open, and is not LAST by it
        LastLatch y = Checks.told("lane drafts 0;door a plain;door b plain;last b;ajar a b;person p");
        Checks.edge(y, "go(0, 0)", y.go(0, 0), 2, 0);
        Checks.edge(y, "door(0, 1)", y.door(0, 1), 2, 0);
        Checks.edge(y, "last()", y.last(), 1, 0);
    }

    // ---- promises 10 to 12

    private static void choicesNoneAndMost() {
        LastLatch none = Checks.told(LEAN);
        Checks.edge(none, "choices()", none.choices(), 0, 0);
        // four to shut, four to go by for each of two
        LastLatch most = Checks.told("lane drafts 0;door a plain;door b plain;door c plain;door d plain;"
            + "ajar a a;ajar b a;ajar c a;ajar d a;person p;person q");
        Checks.edge(most, "choices()", most.choices(), 12, 0);
    }

    private static void seenNoneAndAll() {
        LastLatch none = Checks.told(LEAN);
        Checks.edge(none, "seen()", none.seen(), 0, 0);
        LastLatch all = Checks.told("lane drafts 0;door a plain;door b plain;door c plain;door d plain;"
            + "ajar a d;ajar b c;ajar c b;ajar d a");
        Checks.edge(all, "seen()", all.seen(), 15, 0);
        // nobody need be in the lane; two doors to one ROOM show one
        LastLatch one = Checks.told("lane drafts 0;door a plain;door b plain;ajar a b;ajar b b;person p;inside p a");
        Checks.edge(one, "seen()", one.seen(), 2, 0);
    }

    private static void shutInNoneAndAll() {
        LastLatch nobody = Checks.told(LEAN);
        Checks.edge(nobody, "shutIn()", nobody.shutIn(), 0, 0);
        LastLatch inLane = Checks.told(LEAN + ";person p;person q");
        Checks.edge(inLane, "shutIn()", inLane.shutIn(), 0, 0);
        LastLatch both = Checks.told(LEAN + ";person p;person q;inside p a;inside q a");
        Checks.edge(both, "shutIn()", both.shutIn(), 3, 0);
        LastLatch second = Checks.told(LEAN + ";person p;person q;inside q a");
        Checks.edge(second, "shutIn()", second.shutIn(), 2, 0);
        // b is shut, but a leads to its ROOM
        LastLatch by = Checks.told(LEAN + ";door b plain;last b;ajar a b;person p;inside p b");
        Checks.edge(by, "shutIn()", by.shutIn(), 0, 0);
        // a is open, but leads to b's ROOM
        LastLatch past = Checks.told(LEAN + ";door b plain;last b;ajar a b;person p;inside p a");
        Checks.edge(past, "shutIn()", past.shutIn(), 1, 0);
    }

    private static void withoutALane() {
        LastLatch x = new LastLatch();
        for (int any : new int[] {LEAST, -1, 0, 1, MOST}) {
            Checks.edge(x, "door(" + any + ", 0)", x.door(any, 0), -1, 1);
            Checks.edge(x, "door(0, " + any + ")", x.door(0, any), -1, 1);
            Checks.edge(x, "person(" + any + ", 0)", x.person(any, 0), -1, 1);
            Checks.edge(x, "person(0, " + any + ")", x.person(0, any), -1, 1);
            Checks.edge(x, "can(" + any + ")", x.can(any), -1, 1);
            Checks.throwsNoSuch("led(" + any + ")", x, any);
        }
        Checks.edge(x, "last()", x.last(), -1, 1);
        Checks.edge(x, "choices()", x.choices(), -1, 1);
        Checks.edge(x, "seen()", x.seen(), -1, 1);
        Checks.edge(x, "shutIn()", x.shutIn(), -1, 1);
        // a text with a FAULT is no LANE
        Checks.tell(x, "lane drafts 5");
        Checks.edge(x, "last() behind a FAULT", x.last(), -1, 1);
        Checks.edge(x, "seen() behind a FAULT", x.seen(), -1, 1);
    }

    // ---- promise 45: "NoSuchElementException if there is none such"

    private static void ledNumbers() {
        LastLatch x = Checks.told(LEAN + ";door b plain;ajar a b;person p");
        // b can be opened, a shut, p goes by a
        Checks.due("led(0)", x.led(0), 1);
        Checks.due("led(1)", x.led(1), 2);
        Checks.due("led(2)", x.led(2), 4);
        x.shut(1);
        for (int bad : new int[] {-1, 3, 4, 8, LEAST, MOST}) {
            Checks.throwsNoSuch("led(" + bad + ")", x, bad);
            Checks.due("trouble() stays by led()", x.trouble(), 5);
        }
        Checks.due("led(0)", x.led(0), 1);
        Checks.due("trouble() stays by led()", x.trouble(), 5);
        LastLatch none = Checks.told(LEAN);
        Checks.throwsNoSuch("led(0) where no STEP can be done", none, 0);
        Checks.due("trouble()", none.trouble(), 0);
    }

    // ---- promise 46: "NONE for others; 0 for what there isn't"

    private static void sizeNumbers() {
        LastLatch x = Checks.told(FULL);
        x.undo();
        for (int bad : new int[] {-1, 13, 14, LEAST, MOST}) {
            Checks.edge(x, "size(" + bad + ")", x.size(bad), -1, 6);
        }
        LastLatch none = new LastLatch();
        Checks.edge(none, "size(13)", none.size(13), -1, 0);
        for (int what = 0; what <= 12; what++) {
            Checks.edge(none, "size(" + what + ")", none.size(what), 0, 0);
        }
        none.feed(0, 0, 0, 0, 0);
        Checks.edge(none, "size(12)", none.size(12), 20, 0);
        // a text with a FAULT tells nothing
        LastLatch faulty = new LastLatch();
        Checks.tell(faulty, FULL + ";");
        for (int what = 0; what <= 12; what++) {
            Checks.due("size(" + what + ") behind a FAULT", faulty.size(what), 0);
        }
    }

    private static void sizesAsTold() {
        LastLatch x = Checks.told(FULL);
        int[] due = {100, 4, 2, 4, 4, 2, 2, 2, 2, 2, 0, 0, 0};
        for (int what = 0; what <= 12; what++) {
            Checks.due("size(" + what + ")", x.size(what), due[what]);
        }
        x.go(0, 0);
        x.go(1, 3);
        x.shut(0);
        x.shut(1);
        x.image();
        int[] then = {100, 4, 2, 4, 4, 2, 2, 2, 2, 2, 4, 1, 0};
        for (int what = 0; what <= 12; what++) {
            Checks.due("size(" + what + ") behind acts", x.size(what), then[what]);
        }
        LastLatch lean = Checks.told(LEAN);
        for (int what = 0; what <= 12; what++) {
            Checks.due("size(" + what + ") of the least", lean.size(what), what == 1 ? 1 : 0);
        }
        // wants lane and seen lane are told, too
        LastLatch lane = Checks.told(LEAN + ";person p;wants p lane;seen p lane");
        Checks.due("size(8)", lane.size(8), 1);
        Checks.due("size(9)", lane.size(9), 1);
    }

    // ---- promise 47, terms IV: "TROUBLE of the latest call that may be refused"

    private static void troubleOfTheLatest() {
        LastLatch x = new LastLatch();
        Checks.due("trouble() of a new object", x.trouble(), 0);
        x.last();
        Checks.due("trouble(): none such", x.trouble(), 1);
        x.lane(-1);
        Checks.due("trouble(): a number", x.trouble(), 2);
        x.lane(0);
        Checks.due("trouble(): a FAULT", x.trouble(), 4);
        x.undo();
        Checks.due("trouble(): there is none", x.trouble(), 6);
        x.feed(0, 0, 0, 0, 0);
        x.fault();
        x.where();
        x.size(1);
        x.trouble();
        Checks.due("trouble() stays", x.trouble(), 6);
        x.lane(0);
        Checks.tell(x, LEAN + ";person p");
        Checks.due("trouble(): it wasn't", x.trouble(), 0);
        x.image();
        x.image();
        x.image();
        Checks.due("trouble(): it wasn't", x.trouble(), 0);
        x.image();
        Checks.due("trouble(): no room", x.trouble(), 3);
        x.shut(0);
        Checks.due("trouble(): not so", x.trouble(), 5);
        x.trouble();
        Checks.due("trouble() stays by trouble()", x.trouble(), 5);
        x.can(0);
        Checks.due("trouble(): it wasn't", x.trouble(), 0);
    }
}
