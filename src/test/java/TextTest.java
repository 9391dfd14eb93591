/** Promises 1 to 5: a new object, feed, lane, fault, where; and what a refused text leaves as it was. */
public final class TextTest {
    private static final String HEAD = "lane drafts 5;door a plain;door b spring;person p;";

    public static void main(String[] args) {
        newObject();
        tape();
        laneNumbers();
        forms();
        names();
        toldAgain();
        bounds();
        many();
        lacks();
        shutLast();
        leftmostWins();
        faultStays();
        Checks.finish();
    }

    /** A text is refused with this FAULT at this place. */
    private static void faulty(String text, int fault, int place) {
        LastLatch x = new LastLatch();
        Checks.refused(x, "lane of " + text, Checks.tell(x, text), 4);
        Checks.due("fault() of " + text, x.fault(), fault);
        Checks.due("where() of " + text, x.where(), place);
        Checks.due("size(1) behind " + text, x.size(1), 0);
        Checks.due("size(12) behind " + text, x.size(12), 0);
    }

    /** A FAULT at the place where the text's last word begins. */
    private static void faultyLast(String text, int fault) {
        faulty(text, fault, text.lastIndexOf(' ') + 1);
    }

    private static void good(String text, int doors) {
        LastLatch x = new LastLatch();
        Checks.granted(x, "lane of " + text, Checks.tell(x, text), doors);
        Checks.due("fault() of " + text, x.fault(), 0);
        Checks.due("where() of " + text, x.where(), -1);
    }

    private static void newObject() {
        LastLatch x = new LastLatch();
        Checks.due("trouble()", x.trouble(), 0);
        Checks.due("fault()", x.fault(), 0);
        Checks.due("where()", x.where(), -1);
        for (int what = 0; what <= 12; what++) {
            Checks.due("size(" + what + ")", x.size(what), 0);
        }
        Checks.due("size(13)", x.size(13), -1);
        Checks.due("size(-1)", x.size(-1), -1);
        Checks.due("trouble()", x.trouble(), 0);
        Checks.refused(x, "last()", x.last(), 1);
    }

    private static void tape() {
        LastLatch x = new LastLatch();
        for (int i = 1; i <= 40; i++) {
            Checks.due("feed", x.feed(0x20202020, 0x20202020, 0x20202020, 0x20202020, 0x20202020), 20 * i);
        }
        Checks.due("feed over 800", x.feed(1, 2, 3, 4, 5), -1);
        Checks.due("feed over 800 leaves trouble", x.trouble(), 0);
        Checks.due("size(12)", x.size(12), 800);
        Checks.refused(x, "lane(801)", x.lane(801), 2);
        Checks.due("size(12)", x.size(12), 800);
        Checks.due("feed leaves trouble", x.feed(0, 0, 0, 0, 0), -1);
        Checks.due("trouble()", x.trouble(), 2);
        Checks.refused(x, "lane(800)", x.lane(800), 4);
        Checks.due("fault()", x.fault(), 1);
        Checks.due("where()", x.where(), 800);
        // the highest byte of each number comes first: "lane drafts 7;door a" " plain"
        Checks.due("feed", x.feed(0x6c616e65, 0x20647261, 0x66747320, 0x373b646f, 0x6f722061), 20);
        Checks.due("feed", x.feed(0x20706c61, 0x696e2020, 0x00ff80ff, -1, Integer.MIN_VALUE), 40);
        Checks.granted(x, "lane(26)", x.lane(26), 1);
        Checks.due("size(0)", x.size(0), 7);
        Checks.due("size(12)", x.size(12), 0);
        String spaced = "lane drafts 7;door a plain" + " ".repeat(774);
        Checks.granted(x, "lane of 800 bytes", Checks.tell(x, spaced), 1);
    }

    private static void laneNumbers() {
        LastLatch x = Checks.told("lane drafts 7;door a plain;door b plain");
        Checks.feed(x, Checks.bytes("lane drafts 9;door a plain"));
        Checks.refused(x, "lane(41)", x.lane(41), 2);
        Checks.refused(x, "lane(-1)", x.lane(-1), 2);
        Checks.due("size(12)", x.size(12), 40);
        Checks.due("size(1)", x.size(1), 2);
        Checks.granted(x, "lane(26)", x.lane(26), 1);
        Checks.due("size(0)", x.size(0), 9);
    }

    private static void forms() {
        faulty("", 1, 0);
        faulty("   ", 1, 3);
        faulty(";", 1, 0);
        faulty("7", 1, 0);
        faulty("drafts", 1, 0);
        faulty("lane", 1, 4);
        faulty("lane  ", 1, 6);
        faulty("lane 5", 1, 5);
        faulty("lane lane", 1, 5);
        faulty("lane draft 5", 1, 5);
        faulty("lane drafts;", 1, 11);
        faulty("lane drafts x", 1, 12);
        faulty("lane drafts 5;", 1, 14);
        faulty("lane drafts 5; ;", 1, 15);
        faulty("lane drafts 5 6", 1, 14);
        faulty("lane drafts 5 door a plain", 1, 14);
        faulty("lane drafts 5,door a plain", 1, 13);
        faulty("lane drafts 5;Door a plain", 1, 14);
        faulty("lane drafts 5;\tdoor a plain", 1, 14);
        faulty("lane drafts 5;door a plain\n", 1, 26);
        faulty("lane drafts 5;door a plain" + (char) 0, 1, 26);
        faulty("lane drafts 5;door a plain" + (char) 0xe9, 1, 26);
        faulty("lane drafts 0005;door a plain", 1, 12);
        faulty("lane drafts 5;door abcdefghi plain", 1, 19);
        faulty("lane drafts 5;door a glass", 1, 21);
        faulty("lane drafts 5;door a", 1, 20);
        faulty("lane drafts 5;door a door", 1, 21);
        faulty("lane drafts 5;door 7 plain", 1, 19);
        faulty("lane drafts 5;door a plain plain", 1, 27);
        for (String word : "lane door locked last ajar person inside key home wants seen".split(" ")) {
            faultyLast(HEAD + "door " + word, 1);
            faultyLast(HEAD + "person " + word, 1);
            faultyLast(HEAD + "locked " + word, 1);
            faultyLast(HEAD + "last " + word, 1);
            faultyLast(HEAD + "ajar a " + word, 1);
            faultyLast(HEAD + "inside " + word, 1);
            faultyLast(HEAD + "inside p " + word, 1);
            faultyLast(HEAD + "key " + word, 1);
            faultyLast(HEAD + "home p " + word, 1);
            faultyLast(HEAD + "wants " + word, 1);
            if (!word.equals("lane")) {
                faultyLast(HEAD + "wants p " + word, 1);
                faultyLast(HEAD + "seen p " + word, 1);
            }
        }
        good("lane drafts5;door a plain", 1);
        good("lane drafts 005;door a plain", 1);
        good("  lane  drafts  5  ;  door  a  plain  ", 1);
        good("lane drafts 5;door abcdefgh plain", 1);
        good("lane drafts 5;door drafts spring;door plain stuck;person spring;inside spring plain", 2);
        good(HEAD + "wants p lane;seen p lane;home p a", 2);
    }

    private static void names() {
        faultyLast(HEAD + "locked z", 2);
        faultyLast(HEAD + "locked p", 2);
        faultyLast(HEAD + "last z", 2);
        faultyLast(HEAD + "last p", 2);
        faultyLast(HEAD + "ajar z", 2);
        faultyLast(HEAD + "ajar p", 2);
        faultyLast(HEAD + "ajar a z", 2);
        faultyLast(HEAD + "ajar a p", 2);
        faultyLast(HEAD + "inside a", 2);
        faultyLast(HEAD + "inside p z", 2);
        faultyLast(HEAD + "inside p p", 2);
        faultyLast(HEAD + "key b", 2);
        faultyLast(HEAD + "key z", 2);
        faultyLast(HEAD + "home a", 2);
        faultyLast(HEAD + "home p p", 2);
        faultyLast(HEAD + "wants b", 2);
        faultyLast(HEAD + "wants p p", 2);
        faultyLast(HEAD + "seen a", 2);
        faultyLast(HEAD + "seen p z", 2);
        // a name must be told ahead of its use, and whole
        faultyLast("lane drafts 5;door a plain;last b", 2);
        faultyLast("lane drafts 5;door ab plain;last a", 2);
        faultyLast("lane drafts 5;door a plain;last ab", 2);
        faultyLast("lane drafts 5;person p;inside p a", 2);
    }

    private static void toldAgain() {
        faultyLast(HEAD + "door a", 3);
        faultyLast(HEAD + "door p", 3);
        faultyLast(HEAD + "person p", 3);
        faultyLast(HEAD + "person b", 3);
        faultyLast(HEAD + "locked b;locked a;locked b", 3);
        faultyLast(HEAD + "ajar a b;ajar b b;ajar a", 3);
        faultyLast(HEAD + "inside p a;inside p", 3);
        faultyLast(HEAD + "key p;key p", 3);
        faultyLast(HEAD + "home p a;home p", 3);
        faultyLast(HEAD + "wants p lane;wants p", 3);
        faultyLast(HEAD + "seen p b;seen p", 3);
        faulty(HEAD + "lane", 3, HEAD.length());
        faulty(HEAD + "last b;last", 3, HEAD.length() + 7);
        faulty("lane drafts 5;lane drafts 6", 3, 14);
        good(HEAD + "home p a;wants p a;seen p a;inside p a;key p", 2);
        good(HEAD + "ajar a b;ajar b b", 2);
    }

    private static void bounds() {
        faulty("lane drafts 101", 4, 12);
        faulty("lane drafts 999;door a plain", 4, 12);
        good("lane drafts 100;door a plain", 1);
        good("lane drafts 0;door a plain", 1);
    }

    private static void many() {
        String four = "lane drafts 5;door a plain;door b plain;door c plain;door d plain";
        good(four, 4);
        faulty(four + ";door", 5, four.length() + 1);
        faulty(four + ";door a", 5, four.length() + 1);
        String two = "lane drafts 5;person p;person q";
        faulty(two + ";person", 5, two.length() + 1);
        good(two + ";door a plain", 1);
        // only doors and people have room for so many; others are told again
        faultyLast(four + ";locked a;locked b;locked c;locked d;locked a", 3);
    }

    private static void lacks() {
        faulty("door a", 6, 0);
        faulty("  person p", 6, 2);
        faulty("last", 6, 0);
        faulty("lane drafts 5", 6, 13);
        faulty("lane drafts 5 ", 6, 14);
        faulty("lane drafts 5;person p;wants p lane", 6, 35);
    }

    private static void shutLast() {
        faultyLast(HEAD + "last a;ajar a", 7);
        faultyLast(HEAD + "ajar a b;last a", 7);
        faultyLast(HEAD + "last a;ajar b a;ajar a", 7);
        good(HEAD + "last a;ajar b a", 2);
        good(HEAD + "ajar b a;last a", 2);
        // it isn't told of the first one, if no LINE says last
        good(HEAD + "ajar a b", 2);
    }

    private static void leftmostWins() {
        faulty(HEAD + "locked z;#", 2, HEAD.length() + 7);
        faulty(HEAD + "# ;locked z", 1, HEAD.length());
        faulty("door a plain;#", 6, 0);
        faulty("lane drafts 500;door", 4, 12);
        faulty("lane drafts 500 #", 4, 12);
    }

    private static void faultStays() {
        LastLatch x = Checks.told("lane drafts 7;door a plain;person p");
        x.open(0);
        x.image();
        Checks.refused(x, "lane", Checks.tell(x, "lane drafts 5;"), 4);
        Checks.due("where()", x.where(), 14);
        Checks.due("fault()", x.fault(), 1);
        Checks.due("where() again", x.where(), 14);
        // the LANE stays, with what can be undone and its IMAGES
        Checks.due("size(0)", x.size(0), 7);
        Checks.due("size(10)", x.size(10), 1);
        Checks.due("size(11)", x.size(11), 1);
        Checks.due("where() behind size", x.where(), 14);
        Checks.granted(x, "door(0, 1)", x.door(0, 1), 1);
        Checks.due("where() behind a call not refused", x.where(), -1);
        Checks.due("fault() stays", x.fault(), 1);
        Checks.refused(x, "lane(1)", x.lane(1), 2);
        Checks.due("fault() stays", x.fault(), 1);
        Checks.due("where()", x.where(), -1);
        Checks.granted(x, "lane", Checks.tell(x, "lane drafts 8;door b stuck"), 1);
        Checks.due("fault()", x.fault(), 0);
        Checks.due("size(2)", x.size(2), 0);
        Checks.due("size(10)", x.size(10), 0);
        Checks.due("size(11)", x.size(11), 0);
        Checks.refused(x, "back(0)", x.back(0), 1);
        Checks.refused(x, "undo()", x.undo(), 6);
    }
}
