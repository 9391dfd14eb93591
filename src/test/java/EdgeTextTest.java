/**
 * The boundary cases of Terms I (the text and its FAULTS) and of promises 1 to 5, sentence by sentence.
 * Each text is told to a new object; behind it stand fault(), where() and trouble().
 */
public final class EdgeTextTest {
    private static final String[] LINE_WORDS = {
        "lane", "door", "locked", "last", "ajar", "person", "inside", "key", "home", "wants", "seen"};
    private static final String FOUR = "lane drafts 0;door a plain;door b plain;door c plain;door d plain";
    private static final String HEAD = "lane drafts 5;door a plain;door b spring;person p;person q;";

    public static void main(String[] args) {
        newObject();
        tapeHas800Bytes();
        feedTakesTheHighestByteFirst();
        laneOfNoBytes();
        laneNumberTooSmallOrLarge();
        laneOfFewerBytesThanTheTape();
        laneOf800Bytes();
        laneForgetsActsAndImages();
        faultyLaneStays();
        faultOfTheLatestLane();
        whereOnlyBehindFour();
        blanksPartTokens();
        bytesThatBeginNoToken();
        wordsOfOneToEight();
        wholesOfOneToThree();
        endsTooEarly();
        nothingBehindALine();
        draftsBounds();
        laneAheadOfAllOthers();
        upToFourDoors();
        upToTwoPeople();
        kinds();
        namesThatAreNone();
        namesLikeOtherWords();
        namesNotToldOrOfAnotherSort();
        namesToldAgain();
        eachOnce();
        secondLaneSecondLast();
        lacksADoor();
        shutLastAndAjar();
        firstFromTheLeft();
        leastOfOnePlace();
        Checks.finish();
    }

    private static void faulty(String text, int fault, int place) {
        LastLatch x = new LastLatch();
        Checks.due("lane of '" + text + "'", Checks.tell(x, text), -1);
        Checks.due("trouble() of '" + text + "'", x.trouble(), 4);
        Checks.due("where() of '" + text + "'", x.where(), place);
        Checks.due("fault() of '" + text + "'", x.fault(), fault);
        Checks.due("size(1) of '" + text + "'", x.size(1), 0);
    }

    private static LastLatch good(String text, int doors) {
        LastLatch x = new LastLatch();
        Checks.edge(x, "lane of '" + text + "'", Checks.tell(x, text), doors, 0);
        Checks.due("fault() of '" + text + "'", x.fault(), 0);
        return x;
    }

    /** The FAULT stands where the last token of the text begins. */
    private static void faultyLast(String text, int fault) {
        faulty(text, fault, text.lastIndexOf(' ') + 1);
    }

    // ---- promise 1: "No LANE."

    private static void newObject() {
        LastLatch x = new LastLatch();
        Checks.due("trouble()", x.trouble(), 0);
        Checks.due("where()", x.where(), -1);
        Checks.due("fault()", x.fault(), 0);
        Checks.due("NONE", LastLatch.NONE, -1);
        Checks.edge(x, "last()", x.last(), -1, 1);
        Checks.edge(x, "image()", x.image(), -1, 1);
        Checks.edge(x, "undo()", x.undo(), false, 6);
        for (int what = 0; what <= 12; what++) {
            Checks.due("size(" + what + ")", x.size(what), 0);
        }
    }

    // ---- promise 2: "how many it has; NONE, and none comes, if there would be more than 800"

    private static void tapeHas800Bytes() {
        LastLatch x = new LastLatch();
        for (int i = 1; i <= 40; i++) {
            Checks.due("feed " + i, x.feed(0, 0, 0, 0, 0), 20 * i);
        }
        Checks.edge(x, "feed over 800", x.feed(0x20202020, 0, 0, 0, 0), -1, 0);
        Checks.due("size(12)", x.size(12), 800);
        Checks.edge(x, "feed over 800 again", x.feed(-1, -1, -1, -1, -1), -1, 0);
        Checks.due("size(12)", x.size(12), 800);
        // none came: it is still the byte 0 that begins no TOKEN
        Checks.due("lane(800)", x.lane(800), -1);
        Checks.due("trouble()", x.trouble(), 4);
        Checks.due("where()", x.where(), 0);
        // the TAPE is empty then, and takes 800 again
        for (int i = 1; i <= 40; i++) {
            Checks.due("feed " + i, x.feed(1, 2, 3, 4, 5), 20 * i);
        }
        Checks.due("feed over 800", x.feed(1, 2, 3, 4, 5), -1);
        Checks.due("trouble() stays by feed", x.trouble(), 4);
        Checks.due("where() stays by feed", x.where(), 0);
    }

    private static void feedTakesTheHighestByteFirst() {
        LastLatch x = new LastLatch();
        // "lane" " dra" "fts " "100;" "door", " ab " "stuc" "k", then bytes that begin no TOKEN
        Checks.due("feed", x.feed(0x6c616e65, 0x20647261, 0x66747320, 0x3130303b, 0x646f6f72), 20);
        Checks.due("feed", x.feed(0x20616220, 0x73747563, 0x6bff0080, Integer.MIN_VALUE, Integer.MAX_VALUE), 40);
        Checks.edge(x, "lane(29)", x.lane(29), 1, 0);
        Checks.due("size(0)", x.size(0), 100);
        Checks.due("door(0, 0)", x.door(0, 0), 3);
        // a byte's highest bit is no sign: 255 stands where the TOKEN ended
        x.feed(0x6c616e65, 0x20647261, 0x66747320, 0x3130303b, 0x646f6f72);
        x.feed(0x20616220, 0x73747563, 0x6bff0080, Integer.MIN_VALUE, Integer.MAX_VALUE);
        Checks.due("lane(30)", x.lane(30), -1);
        Checks.due("where()", x.where(), 29);
        Checks.due("fault()", x.fault(), 1);
    }

    // ---- promise 3: "The first n bytes of THE TAPE (it is empty then) .. NONE: 2 (THE TAPE stays); 4 (the LANE stays)"

    private static void laneOfNoBytes() {
        LastLatch x = new LastLatch();
        Checks.due("lane(0)", x.lane(0), -1);
        Checks.due("trouble()", x.trouble(), 4);
        Checks.due("where()", x.where(), 0);
        Checks.due("fault()", x.fault(), 1);
        // of a TAPE that has bytes, too: it is empty then
        LastLatch y = new LastLatch();
        Checks.feed(y, Checks.bytes("lane drafts 7;door a plain"));
        Checks.due("lane(0)", y.lane(0), -1);
        Checks.due("trouble()", y.trouble(), 4);
        Checks.due("where()", y.where(), 0);
        Checks.due("size(12)", y.size(12), 0);
        Checks.edge(y, "lane(26)", y.lane(26), -1, 2);
    }

    private static void laneNumberTooSmallOrLarge() {
        LastLatch x = new LastLatch();
        for (int n : new int[] {-1, 1, 20, 800, 801, Integer.MIN_VALUE, Integer.MAX_VALUE}) {
            Checks.edge(x, "lane(" + n + ") of an empty TAPE", x.lane(n), -1, 2);
        }
        Checks.feed(x, Checks.bytes("lane drafts 7;door a plain"));
        for (int n : new int[] {-1, 41, 60, 800, 801, Integer.MIN_VALUE, Integer.MAX_VALUE}) {
            Checks.edge(x, "lane(" + n + ") of 40 bytes", x.lane(n), -1, 2);
            Checks.due("THE TAPE stays", x.size(12), 40);
            Checks.due("fault() is of none", x.fault(), 0);
        }
        Checks.edge(x, "lane(40)", x.lane(40), 1, 0);
        Checks.due("size(12)", x.size(12), 0);
        String before = Checks.picture(x);
        Checks.edge(x, "lane(1)", x.lane(1), -1, 2);
        Checks.same("a lane() refused by 2", before, x);
    }

    private static void laneOfFewerBytesThanTheTape() {
        String text = "lane drafts 7;door a plain;door b stuck";
        LastLatch x = new LastLatch();
        Checks.feed(x, Checks.bytes(text));
        Checks.edge(x, "lane(26)", x.lane(26), 1, 0);
        Checks.due("the rest is gone, too", x.size(12), 0);
        Checks.feed(x, Checks.bytes(text));
        Checks.due("lane(38)", x.lane(38), -1);
        Checks.due("stuc is no KIND", x.where(), 34);
        Checks.feed(x, Checks.bytes(text));
        Checks.edge(x, "lane(39)", x.lane(39), 2, 0);
    }

    private static void laneOf800Bytes() {
        String text = "lane drafts 7;door a plain;person p;";
        good(" ".repeat(800 - 26) + "lane drafts 7;door a plain", 1);
        good("lane drafts 7;door a plain" + " ".repeat(800 - 26), 1);
        faulty(text + " ".repeat(800 - text.length()), 1, 800);
        faulty("lane drafts 7" + " ".repeat(787), 6, 800);
        faulty("lane drafts 7;door a plain" + " ".repeat(773) + "x", 1, 799);
        faulty("lane drafts 7;person p;key" + " ".repeat(773) + "x", 2, 799);
        // the longest that can be told without blanks to spare
        String all = "lane drafts 100;door abcdefgh plain;door ijklmnop spring;door qrstuvwx heavy;door yzyzyzyz stuck;"
            + "locked abcdefgh;locked ijklmnop;locked qrstuvwx;locked yzyzyzyz;ajar abcdefgh yzyzyzyz;"
            + "ajar ijklmnop yzyzyzyz;ajar qrstuvwx yzyzyzyz;last yzyzyzyz;person oneperso;"
            + "person twoperso;inside oneperso abcdefgh;inside twoperso yzyzyzyz;key oneperso;key twoperso;"
            + "home oneperso abcdefgh;home twoperso abcdefgh;wants oneperso lane;wants twoperso yzyzyzyz;"
            + "seen oneperso lane;seen twoperso yzyzyzyz";
        LastLatch x = good(all, 4);
        int[] due = {100, 4, 2, 4, 3, 2, 2, 2, 2, 2, 0, 0, 0};
        for (int what = 0; what < due.length; what++) {
            Checks.due("size(" + what + ") of all", x.size(what), due[what]);
        }
    }

    private static void laneForgetsActsAndImages() {
        LastLatch x = Checks.told("lane drafts 7;door a plain;person p");
        x.open(0);
        x.image();
        x.image();
        x.image();
        Checks.edge(x, "lane", Checks.tell(x, "lane drafts 8;door b plain"), 1, 0);
        Checks.due("size(10)", x.size(10), 0);
        Checks.due("size(11)", x.size(11), 0);
        Checks.edge(x, "undo()", x.undo(), false, 6);
        Checks.edge(x, "back(0)", x.back(0), false, 1);
        Checks.edge(x, "person(0, 0)", x.person(0, 0), -1, 1);
        Checks.edge(x, "door(0, 1)", x.door(0, 1), 0, 0);
        // there is room for three again, and they are numbered anew
        for (int i = 0; i < 3; i++) {
            Checks.edge(x, "image()", x.image(), i, 0);
        }
    }

    private static void faultyLaneStays() {
        LastLatch x = Checks.told("lane drafts 7;door a plain;door b spring;last b;person p;inside p a");
        x.nail(0);
        x.spring(1);
        x.image();
        for (String text : new String[] {"", "lane drafts 8", "lane drafts 8;door c plain;last a", FOUR + ";door"}) {
            String before = Checks.picture(x);
            Checks.due("lane of '" + text + "'", Checks.tell(x, text), -1);
            Checks.due("trouble()", x.trouble(), 4);
            Checks.due("size(12)", x.size(12), 0);
            Checks.due("all but the FAULT is as it was", Checks.picture(x).startsWith(
                before.substring(0, before.lastIndexOf(' '))), true);
        }
        Checks.edge(x, "undo() behind a FAULT", x.undo(), true, 0);
        Checks.edge(x, "back(0) behind a FAULT", x.back(0), true, 0);
        Checks.edge(x, "errand(2)", x.errand(2), -2, 0);
    }

    // ---- promise 4: "The FAULT of the latest lane() not refused by 2; 0 without one"

    private static void faultOfTheLatestLane() {
        LastLatch x = new LastLatch();
        Checks.edge(x, "lane(1)", x.lane(1), -1, 2);
        Checks.due("fault() behind 2 alone", x.fault(), 0);
        Checks.tell(x, "lane drafts 101");
        Checks.due("fault()", x.fault(), 4);
        x.lane(-1);
        Checks.due("fault() stays behind 2", x.fault(), 4);
        Checks.tell(x, "door");
        Checks.due("fault()", x.fault(), 6);
        x.last();
        Checks.due("fault() stays behind other calls", x.fault(), 6);
        Checks.tell(x, "lane drafts 100;door a plain");
        Checks.due("fault() of none", x.fault(), 0);
        x.lane(1);
        Checks.due("fault() of none stays behind 2", x.fault(), 0);
    }

    // ---- promise 5: "Its place, if the latest call that may be refused was by 4; NONE else"

    private static void whereOnlyBehindFour() {
        LastLatch x = Checks.told("lane drafts 7;door a plain;person p");
        Checks.due("where() behind a good one", x.where(), -1);
        Checks.tell(x, "lane drafts 101");
        Checks.due("where()", x.where(), 12);
        // these can't be refused by a number
        x.feed(0, 0, 0, 0, 0);
        Checks.due("where() behind feed()", x.where(), 12);
        x.fault();
        x.trouble();
        x.size(99);
        x.led(0);
        Checks.throwsNoSuch("led(9)", x, 9);
        Checks.due("where() behind fault(), trouble(), size(), led()", x.where(), 12);
        Checks.due("where() behind where()", x.where(), 12);
        x.lane(99);
        Checks.due("where() behind lane() refused by 2", x.where(), -1);
        x.lane(0);
        Checks.due("where()", x.where(), 0);
        x.choices();
        Checks.due("where() behind a call that wasn't refused", x.where(), -1);
        x.lane(0);
        x.undo();
        Checks.due("where() behind one refused by 6", x.where(), -1);
        x.lane(0);
        x.back(0);
        Checks.due("where() behind one refused by 1", x.where(), -1);
        x.lane(0);
        x.shut(0);
        Checks.due("where() behind one refused by 5", x.where(), -1);
    }

    // ---- terms I: TOKENS

    private static void blanksPartTokens() {
        good("   lane   drafts   5   ;   door   a   plain   ", 1);
        good("lane drafts5;door a plain", 1);
        good("lane drafts 5 ;door a plain;person p;wants p lane", 1);
        faulty("la ne drafts 5;door a plain", 1, 0);
        faulty("lanedrafts 5;door a plain", 1, 0);
        faulty("lane drafts 1 0;door a plain", 1, 14);
        faulty("lane drafts 5;door aplain", 1, 25);
        faulty("lane drafts 5;door a pla in", 1, 21);
        faulty("lane drafts 5door a plain", 1, 13);
        faulty("lane drafts 5;door a1 plain", 1, 20);
    }

    private static void bytesThatBeginNoToken() {
        for (int c = 0; c < 256; c++) {
            boolean token = c == ' ' || c == ';' || c >= '0' && c <= '9' || c >= 'a' && c <= 'z';
            String text = "lane drafts 5;door a plain " + (char) c;
            if (c == ' ') {
                good(text, 1);
            } else if (c == ';') {
                // a TOKEN with which a LANE goes on: then its end doesn't
                faulty(text, 1, 28);
            } else {
                faulty(text, 1, 27);
            }
            if (!token) {
                faulty((char) c + "lane", 1, 0);
                faulty("lane" + (char) c, 1, 4);
                faulty("lane drafts 5" + (char) c, 1, 13);
            }
        }
    }

    private static void wordsOfOneToEight() {
        good("lane drafts 5;door z plain;person abcdefgh;inside abcdefgh z", 1);
        good("lane drafts 5;door zzzzzzzz plain;door zzzzzzz plain", 2);
        faulty("lane drafts 5;door abcdefghi plain", 1, 19);
        faulty("lane drafts 5;person abcdefghijklmnopqrstuvwxyz", 1, 21);
        faulty("abcdefghi", 1, 0);
        // the first eight letters are no WORD of their own
        faulty("lane drafts 5;door abcdefgh plain;last abcdefghi", 1, 39);
        faulty("lane drafts 5;door abcdefgh plainplai", 1, 28);
        // one that differs in its last letter only is another one
        faultyLast("lane drafts 5;door abcdefgh plain;last abcdefgi", 2);
        faultyLast("lane drafts 5;door abcdefgh plain;last abcdefg", 2);
        faultyLast("lane drafts 5;door a plain;last aa", 2);
    }

    private static void wholesOfOneToThree() {
        for (String whole : new String[] {"0", "00", "000"}) {
            Checks.due("size(0) of " + whole, good("lane drafts " + whole + ";door a plain", 1).size(0), 0);
        }
        Checks.due("size(0) of 9", good("lane drafts 9;door a plain", 1).size(0), 9);
        Checks.due("size(0) of 099", good("lane drafts 099;door a plain", 1).size(0), 99);
        Checks.due("size(0) of 010", good("lane drafts 010;door a plain", 1).size(0), 10);
        faulty("lane drafts 0000;door a plain", 1, 12);
        faulty("lane drafts 1000;door a plain", 1, 12);
        faulty("lane drafts 0100;door a plain", 1, 12);
        faulty("lane drafts 99999999999999999999", 1, 12);
    }

    // ---- terms I: FORM, "the end: its place"

    private static void endsTooEarly() {
        String[] lines = {"lane drafts 5", "person p", "door a plain", "door b spring", "locked a", "last b", "ajar a b",
            "inside p a", "key p", "home p a", "wants p b", "seen p lane"};
        String told = "";
        boolean door = false;
        for (String line : lines) {
            String[] words = line.split(" ");
            String text = told.isEmpty() ? "" : told + ";";
            for (int i = 0; i < words.length; i++) {
                // ahead of each of its TOKENS the LINE isn't whole, and blanks don't make it so
                faulty(text, 1, text.length());
                faulty(text + "  ", 1, text.length() + 2);
                faulty(text + ";", 1, text.length());
                text += (i == 0 ? "" : " ") + words[i];
            }
            told = text;
            door |= words[0].equals("door");
            if (door) {
                good(told, told.contains("door b") ? 2 : 1);
            } else {
                faulty(told, 6, told.length());
            }
        }
    }

    private static void nothingBehindALine() {
        for (String line : new String[] {"locked a", "last b", "ajar a b", "inside p a", "key p", "home p a", "wants p b",
            "wants p lane", "seen p lane", "seen p a", "door c plain"}) {
            good(HEAD + line, line.startsWith("door") ? 3 : 2);
            for (String more : new String[] {"a", "p", "5", "lane", "door", "plain"}) {
                faultyLast(HEAD + line + " " + more, 1);
            }
        }
        // the HEAD ends with ;
        faulty(HEAD + ";", 1, HEAD.length());
        faulty(HEAD, 1, HEAD.length());
    }

    // ---- terms I: the LINES

    private static void draftsBounds() {
        good("lane drafts 0;door a plain", 1);
        Checks.due("size(0)", good("lane drafts 100;door a plain", 1).size(0), 100);
        faulty("lane drafts 101;door a plain", 4, 12);
        faulty("lane drafts   999", 4, 14);
        faulty("lane draft 5", 1, 5);
        faulty("lane draftss 5", 1, 5);
        faulty("lane drafts five", 1, 12);
        faulty("lane drafts drafts", 1, 12);
    }

    private static void laneAheadOfAllOthers() {
        for (String word : LINE_WORDS) {
            if (!word.equals("lane")) {
                faulty(word, 6, 0);
                faulty("  " + word + " a plain;lane drafts 5", 6, 2);
            }
        }
        for (String word : new String[] {"plain", "drafts", "a", "lan", "doors", "spring"}) {
            faulty(word, 1, 0);
        }
    }

    private static void upToFourDoors() {
        good(FOUR, 4);
        for (String rest : new String[] {"", " e plain", " a plain", " door", " 7"}) {
            faulty(FOUR + ";door" + rest, 5, FOUR.length() + 1);
        }
        // the fourth is a door as the others are
        LastLatch x = good(FOUR + ";locked d;last d;ajar a d;person p;inside p d;home p d;wants p d;seen p d", 4);
        Checks.due("last()", x.last(), 3);
        Checks.due("door(0, 1)", x.door(0, 1), 4);
        Checks.due("person(0, 0)", x.person(0, 0), 4);
    }

    private static void upToTwoPeople() {
        good("lane drafts 5;door a plain", 1);
        good("lane drafts 5;door a plain;person p;person q", 1);
        String two = "lane drafts 5;person p;person q";
        for (String rest : new String[] {"", " r", " p", " person", " 7"}) {
            faulty(two + ";person" + rest, 5, two.length() + 1);
        }
    }

    private static void kinds() {
        String[] kinds = {"plain", "spring", "heavy", "stuck"};
        for (int kind = 0; kind < 4; kind++) {
            LastLatch x = good("lane drafts 5;door a " + kinds[kind], 1);
            Checks.edge(x, "door(0, 0)", x.door(0, 0), kind, 0);
        }
        for (String other : new String[] {"plai", "plains", "a", "lane", "drafts", "5", ";"}) {
            faultyLast("lane drafts 5;door a " + other, 1);
        }
    }

    // ---- terms I: NAMES

    private static void namesThatAreNone() {
        for (String word : LINE_WORDS) {
            faultyLast(HEAD + "door " + word, 1);
            faultyLast("lane drafts 5;person " + word, 1);
            faultyLast(HEAD + "locked " + word, 1);
            faultyLast(HEAD + "last " + word, 1);
            faultyLast(HEAD + "ajar " + word, 1);
            faultyLast(HEAD + "ajar a " + word, 1);
            faultyLast(HEAD + "inside " + word, 1);
            faultyLast(HEAD + "inside p " + word, 1);
            faultyLast(HEAD + "key " + word, 1);
            faultyLast(HEAD + "home " + word, 1);
            faultyLast(HEAD + "home p " + word, 1);
            faultyLast(HEAD + "wants " + word, 1);
            faultyLast(HEAD + "seen " + word, 1);
            if (!word.equals("lane")) {
                faultyLast(HEAD + "wants p " + word, 1);
                faultyLast(HEAD + "seen p " + word, 1);
            }
        }
        for (String line : new String[] {"door", "locked", "last", "ajar", "ajar a", "inside", "inside p", "key", "home",
            "home p", "wants", "wants p", "seen", "seen p"}) {
            faultyLast(HEAD + line + " 5", 1);
            faultyLast(HEAD + line + " ;", 1);
        }
    }

    private static void namesLikeOtherWords() {
        for (String name : new String[] {"drafts", "plain", "spring", "heavy", "stuck", "lan", "lanes", "doors", "ke",
            "keys", "lasts", "see", "want"}) {
            LastLatch x = good("lane drafts 5;door " + name + " plain;last " + name, 1);
            Checks.edge(x, "last()", x.last(), 0, 0);
            good("lane drafts 5;door a plain;person " + name + ";inside " + name + " a;wants " + name + " lane", 1);
        }
    }

    private static void namesNotToldOrOfAnotherSort() {
        String[] ofDoors = {"locked ", "last ", "ajar ", "ajar a ", "inside p ", "home p ", "wants p ", "seen p "};
        for (String line : ofDoors) {
            faultyLast(HEAD + line + "z", 2);
            faultyLast(HEAD + line + "p", 2);
            faultyLast(HEAD + line + "q", 2);
            faultyLast(HEAD + line + "plain", 2);
        }
        for (String line : new String[] {"inside ", "key ", "home ", "wants ", "seen "}) {
            faultyLast(HEAD + line + "z", 2);
            faultyLast(HEAD + line + "a", 2);
            faultyLast(HEAD + line + "b", 2);
        }
        // ahead of its use, and not behind it
        faulty("lane drafts 5;last b;door b plain", 2, 19);
        faulty("lane drafts 5;door a plain;ajar a b;door b plain", 2, 34);
        faulty("lane drafts 5;door a plain;key p;person p", 2, 31);
    }

    private static void namesToldAgain() {
        faultyLast(HEAD + "door a", 3);
        faultyLast(HEAD + "door b", 3);
        faultyLast(HEAD + "door p", 3);
        faultyLast(HEAD + "door q", 3);
        faultyLast("lane drafts 5;door a plain;person p;person p", 3);
        faultyLast("lane drafts 5;door a plain;person a", 3);
        faultyLast("lane drafts 5;person p;door p", 3);
        // the FAULT is the NAME's, ahead of a KIND that is none
        faulty(HEAD + "door a glass", 3, HEAD.length() + 5);
    }

    private static void eachOnce() {
        String all = FOUR + ";person p;person q";
        good(all + ";locked a;locked b;locked c;locked d;key p;key q", 4);
        good(all + ";ajar a a;ajar b a;ajar c a;ajar d a", 4);
        good(all + ";inside p a;inside q a;home p a;home q a;wants p a;wants q a;seen p a;seen q a", 4);
        for (String line : new String[] {"locked a", "locked d", "key p", "key q"}) {
            faultyLast(all + ";" + line + ";" + line, 3);
        }
        for (String line : new String[] {"ajar a", "ajar d", "inside p", "inside q", "home p", "home q", "wants p",
            "wants q", "seen p", "seen q"}) {
            // at the first NAME, whatever stands behind it, or ends there
            String text = all + ";" + line + " b;" + line;
            int place = text.lastIndexOf(' ') + 1;
            faulty(text, 3, place);
            faulty(text + " b", 3, place);
            faulty(text + " c", 3, place);
            faulty(text + " z", 3, place);
        }
        faultyLast(all + ";wants p lane;wants p", 3);
        faultyLast(all + ";seen q lane;seen q", 3);
        // of home, of wants, of seen: each of its own
        good(all + ";home p a;wants p lane;seen p lane;inside p a;key p", 4);
        // the second one may be told again, may be open, may be the same
        good(all + ";ajar a b;ajar b a;ajar c c", 4);
    }

    private static void secondLaneSecondLast() {
        int end = HEAD.length();
        for (String rest : new String[] {"", " drafts 5", " drafts 101", " 7", " lane"}) {
            faulty(HEAD + "lane" + rest, 3, end);
        }
        faulty("lane drafts 5;lane drafts 5", 3, 14);
        for (String rest : new String[] {"", " b", " a", " z", " p", " 7", " last"}) {
            faulty(HEAD + "last b;last" + rest, 3, end + 7);
        }
    }

    // ---- terms I: LACKS, SHUT

    private static void lacksADoor() {
        faulty("lane drafts 5", 6, 13);
        faulty("lane drafts 5   ", 6, 16);
        faulty("lane drafts 5;person p;person q;key p;wants p lane;seen q lane", 6, 62);
    }

    private static void shutLastAndAjar() {
        faultyLast(HEAD + "last a;ajar a", 7);
        faulty(HEAD + "last a;ajar a a", 7, HEAD.length() + 12);
        faulty(HEAD + "last a;ajar a z", 7, HEAD.length() + 12);
        faultyLast(HEAD + "ajar a b;last a", 7);
        faultyLast(HEAD + "ajar b b;ajar a a;last b", 7);
        faultyLast(HEAD + "last b;locked a;key p;ajar b", 7);
        // as the second one it may be the one shut last
        good(HEAD + "last a;ajar b a", 2);
        good(HEAD + "ajar b a;last a", 2);
        // without a LINE that says last the first one is, and may be open as told
        LastLatch x = good(HEAD + "ajar a a", 2);
        Checks.edge(x, "last()", x.last(), 0, 0);
        Checks.edge(x, "door(0, 1)", x.door(0, 1), 1, 0);
        Checks.edge(x, "door(0, 5)", x.door(0, 5), 1, 0);
    }

    private static void firstFromTheLeft() {
        int end = HEAD.length();
        faulty(HEAD + "locked z;!", 2, end + 7);
        faulty(HEAD + "!;locked z", 1, end);
        faulty(HEAD + "locked z;locked", 2, end + 7);
        faulty("lane drafts 101;door", 4, 12);
        faulty("lane drafts 101 !", 4, 12);
        faulty("lane drafts ! 101", 1, 12);
        faulty("door !", 6, 0);
        faulty("! door", 1, 0);
        faulty("lane drafts 5;person p;last p", 2, 28);
        faulty(HEAD + "person r", 5, end);
        faulty(HEAD + "inside a p", 2, end + 7);
        faulty(HEAD + "ajar p z", 2, end + 5);
        faulty(HEAD + "ajar a b;ajar z a", 2, end + 14);
    }

    /** The end of a text without a door lacks one (6), but if no LANE ends there it is FORM (1). */
    private static void leastOfOnePlace() {
        faulty("lane drafts 5;", 1, 14);
        faulty("lane drafts", 1, 11);
        faulty("lane drafts 5;person", 1, 20);
        faulty("", 1, 0);
    }
}
