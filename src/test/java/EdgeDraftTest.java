/** The boundary cases of promises 29 to 36: two who slam, drafts by chance and by draws, sentence by sentence. */
public final class EdgeDraftTest {
    private static final int LEAST = Integer.MIN_VALUE;
    private static final int MOST = Integer.MAX_VALUE;

    public static void main(String[] args) {
        slamsNumbers();
        slamsAnswers();
        restsNumbers();
        restsAnswers();
        oddsNumbers();
        oddsOfNoTimes();
        oddsOfNoDrafts();
        oddsOfSureDrafts();
        oddsWhereAllAreShut();
        oddsOfMostTimes();
        stuckOnesToo();
        lowestTerms();
        drawNumbers();
        drawsOfNoTimes();
        seedsWrapAround();
        drawBounds();
        oneDrawWhereAllAreShut();
        stillAtEdges();
        nailsAndPeopleDontMatter();
        askingChangesNothing();
        withoutALane();
        Checks.finish();
    }

    private static String doors(int drafts, int howMany, int open) {
        StringBuilder all = new StringBuilder("lane drafts " + drafts);
        for (int d = 0; d < howMany; d++) {
            all.append(";door ").append("abcd".charAt(d)).append(" plain");
        }
        for (int d = 0; d < howMany; d++) {
            all.append((open >> d & 1) != 0 ? ";ajar " + "abcd".charAt(d) + " a" : "");
        }
        return all.toString();
    }

    // ---- promise 29: "draught is so much (0 .. 9). -100: 1 (no LANE); 2"

    private static void slamsNumbers() {
        LastLatch x = Checks.told(doors(0, 1, 0));
        for (int bad : new int[] {-1, 10, 11, LEAST, MOST}) {
            for (int how = 0; how < 8; how++) {
                Checks.edge(x, "slams(" + bad + ")", slams(x, bad, how), -100, 2);
            }
        }
    }

    private static long slams(LastLatch x, int draught, int how) {
        return x.slams(draught, (how & 4) != 0, (how & 2) != 0, (how & 1) != 0);
    }

    private static void slamsAnswers() {
        LastLatch x = Checks.told(doors(0, 1, 0));
        for (int draught : new int[] {0, 1, 2, 9}) {
            int alone = 1 - draught;
            // softly both; the other one slams; the one slams; both: of the one, of the other one
            int[] due = {2, 2, alone, 4, 4, alone, 0, 0};
            for (int how = 0; how < 8; how++) {
                Checks.edge(x, "slams(" + draught + ") " + how, slams(x, draught, how), due[how], 0);
            }
        }
    }

    // ---- promises 30, 31: "NONE: 1 (no LANE); 2"; "-2. NONE: likewise"

    private static void restsNumbers() {
        LastLatch x = Checks.told(doors(0, 1, 0));
        for (int bad : new int[] {-1, 10, 11, LEAST, MOST}) {
            Checks.edge(x, "rests(" + bad + ")", x.rests(bad), -1, 2);
            Checks.edge(x, "rest(" + bad + ")", x.rest(bad), -1, 2);
        }
    }

    /** By 0 who slams alone has 4 and the other one 1, more than 0; by 1 as much as 0; above it less. */
    private static void restsAnswers() {
        LastLatch x = Checks.told(doors(0, 1, 0));
        int[] count = {2, 3, 1, 1, 1, 1, 1, 1, 1, 1};
        int[] first = {1, 1, 11, 11, 11, 11, 11, 11, 11, 11};
        for (int draught = 0; draught <= 9; draught++) {
            Checks.edge(x, "rests(" + draught + ")", x.rests(draught), count[draught], 0);
            Checks.edge(x, "rest(" + draught + ")", x.rest(draught), first[draught], 0);
        }
    }

    // ---- promises 32 to 34: "n times (0 .. 3) .. in lowest terms (0 by 1). -1: 1; 2"

    private static void oddsNumbers() {
        LastLatch x = Checks.told(doors(50, 2, 3));
        for (boolean lower : new boolean[] {false, true}) {
            for (int bad : new int[] {-1, 2, 3, LEAST, MOST}) {
                Checks.edge(x, "odds(" + bad + ", 0)", x.odds(bad, 0, lower), -1, 1);
                Checks.edge(x, "odds(" + bad + ", 4)", x.odds(bad, 4, lower), -1, 1);
                Checks.edge(x, "shutOdds(" + bad + ", 0)", x.shutOdds(bad, 0, lower), -1, 1);
                Checks.edge(x, "shutOdds(" + bad + ", -1)", x.shutOdds(bad, -1, lower), -1, 1);
            }
            for (int bad : new int[] {-1, 4, 5, LEAST, MOST}) {
                Checks.edge(x, "odds(0, " + bad + ")", x.odds(0, bad, lower), -1, 2);
                Checks.edge(x, "shutOdds(1, " + bad + ")", x.shutOdds(1, bad, lower), -1, 2);
                Checks.edge(x, "mean(" + bad + ")", x.mean(bad, lower), -1, 2);
            }
        }
    }

    private static void odds(LastLatch x, int d, int n, long upper, long lower) {
        Checks.edge(x, "odds(" + d + ", " + n + ", false)", x.odds(d, n, false), upper, 0);
        Checks.edge(x, "odds(" + d + ", " + n + ", true)", x.odds(d, n, true), lower, 0);
    }

    private static void shutOdds(LastLatch x, int d, int n, long upper, long lower) {
        Checks.edge(x, "shutOdds(" + d + ", " + n + ", false)", x.shutOdds(d, n, false), upper, 0);
        Checks.edge(x, "shutOdds(" + d + ", " + n + ", true)", x.shutOdds(d, n, true), lower, 0);
    }

    private static void mean(LastLatch x, int n, long upper, long lower) {
        Checks.edge(x, "mean(" + n + ", false)", x.mean(n, false), upper, 0);
        Checks.edge(x, "mean(" + n + ", true)", x.mean(n, true), lower, 0);
    }

    private static void oddsOfNoTimes() {
        LastLatch x = Checks.told(doors(50, 4, 6) + ";last d");
        int[] shut = {1, 0, 0, 1};
        for (int d = 0; d < 4; d++) {
            odds(x, d, 0, d == 3 ? 1 : 0, 1);
            shutOdds(x, d, 0, shut[d], 1);
        }
        mean(x, 0, 2, 1);
    }

    private static void oddsOfNoDrafts() {
        LastLatch x = Checks.told(doors(0, 4, 15));
        for (int n = 0; n <= 3; n++) {
            odds(x, 0, n, 1, 1);
            odds(x, 1, n, 0, 1);
            shutOdds(x, 0, n, 0, 1);
            mean(x, n, 4, 1);
        }
    }

    private static void oddsOfSureDrafts() {
        LastLatch x = Checks.told(doors(100, 4, 15));
        for (int n = 1; n <= 3; n++) {
            for (int d = 0; d < 4; d++) {
                // each is the n-th that is shut as likely as another
                odds(x, d, n, 1, 4);
                shutOdds(x, d, n, n == 2 ? 1 : n, n == 2 ? 2 : 4);
            }
            mean(x, n, 4 - n, 1);
        }
        // one is open: shut by the first, and the next times find none
        LastLatch y = Checks.told(doors(100, 2, 2) + ";last a");
        for (int n = 1; n <= 3; n++) {
            odds(y, 0, n, 0, 1);
            odds(y, 1, n, 1, 1);
            shutOdds(y, 1, n, 1, 1);
            mean(y, n, 0, 1);
        }
    }

    /** "none, if all are shut" */
    private static void oddsWhereAllAreShut() {
        LastLatch x = Checks.told(doors(100, 2, 0) + ";last b");
        for (int n = 0; n <= 3; n++) {
            odds(x, 0, n, 0, 1);
            odds(x, 1, n, 1, 1);
            shutOdds(x, 0, n, 1, 1);
            shutOdds(x, 1, n, 1, 1);
            mean(x, n, 0, 1);
        }
    }

    private static void oddsOfMostTimes() {
        // one open door at 1 in a hundred, three times: 1 - 0.99^3
        LastLatch x = Checks.told(doors(1, 2, 2) + ";last a");
        odds(x, 1, 3, 29701, 1000000);
        odds(x, 0, 3, 970299, 1000000);
        shutOdds(x, 1, 3, 29701, 1000000);
        mean(x, 3, 970299, 1000000);
        // three open, 99 in a hundred, three times: all shut 0.99^3; a last one is each as likely but for 0.01^3
        LastLatch y = Checks.told(doors(99, 4, 7) + ";last d");
        odds(y, 3, 3, 1, 1000000);
        odds(y, 0, 3, 333333, 1000000);
        mean(y, 3, 3 * 100 - 297, 100);
    }

    /** "it shuts one of the open doors (stuck ones, too)" */
    private static void stuckOnesToo() {
        LastLatch x = Checks.told("lane drafts 100;door a stuck;door b heavy;door c spring;door d plain;last d;"
            + "ajar a a;ajar b a;ajar c a");
        for (int d = 0; d < 3; d++) {
            odds(x, d, 1, 1, 3);
            shutOdds(x, d, 1, 1, 3);
        }
        odds(x, 3, 1, 0, 1);
        mean(x, 3, 0, 1);
        LastLatch y = Checks.told("lane drafts 100;door a stuck;ajar a a");
        Checks.edge(y, "stillAt(0, 1)", y.stillAt(0, 1), 1, 0);
    }

    private static void lowestTerms() {
        LastLatch x = Checks.told(doors(50, 2, 1));
        odds(x, 0, 3, 1, 1);
        shutOdds(x, 0, 1, 1, 2);
        shutOdds(x, 0, 2, 3, 4);
        shutOdds(x, 0, 3, 7, 8);
        mean(x, 3, 1, 8);
        // three are open: a third of 10 in a hundred
        LastLatch y = Checks.told(doors(10, 3, 7));
        shutOdds(y, 1, 1, 1, 30);
        mean(y, 1, 29, 10);
    }

    // ---- promises 35, 36: "n times (0 .. 60) by a SEED (0 .. 65,536). NONE: 1 (no LANE); 2"

    private static void drawNumbers() {
        LastLatch x = Checks.told(doors(50, 2, 2) + ";last a");
        for (int bad : new int[] {-1, 65537, 65538, LEAST, MOST}) {
            Checks.edge(x, "drafts(" + bad + ", 0)", x.drafts(bad, 0), -1, 2);
            Checks.edge(x, "stillAt(" + bad + ", 0)", x.stillAt(bad, 0), -1, 2);
        }
        for (int bad : new int[] {-1, 61, 62, LEAST, MOST}) {
            Checks.edge(x, "drafts(0, " + bad + ")", x.drafts(0, bad), -1, 2);
            Checks.edge(x, "stillAt(0, " + bad + ")", x.stillAt(0, bad), -1, 2);
        }
        Checks.edge(x, "drafts(65536, 60)", x.drafts(65536, 60), 1, 0);
        Checks.edge(x, "drafts(0, 60)", x.drafts(0, 60), 1, 0);
    }

    private static void drawsOfNoTimes() {
        LastLatch x = Checks.told(doors(100, 3, 3) + ";last c");
        for (int seed : new int[] {0, 1, 65535, 65536}) {
            Checks.edge(x, "drafts(" + seed + ", 0)", x.drafts(seed, 0), 2, 0);
            Checks.edge(x, "stillAt(" + seed + ", 0)", x.stillAt(seed, 0), -2, 0);
        }
        LastLatch shut = Checks.told(doors(100, 3, 0));
        Checks.edge(shut, "stillAt(0, 0), 0: NOW", shut.stillAt(0, 0), 0, 0);
        Checks.edge(shut, "drafts(0, 60)", shut.drafts(0, 60), 0, 0);
    }

    /** "SEED becomes (75 times SEED and 74) mod 65,537" */
    private static void seedsWrapAround() {
        // 65,536 stays 65,536: 36 in a hundred, each time
        LastLatch at36 = Checks.told(doors(36, 2, 2) + ";last a");
        Checks.edge(at36, "stillAt(65536, 60)", at36.stillAt(65536, 60), -2, 0);
        Checks.edge(at36, "drafts(65536, 60)", at36.drafts(65536, 60), 0, 0);
        LastLatch at37 = Checks.told(doors(37, 2, 2) + ";last a");
        Checks.edge(at37, "stillAt(65536, 1)", at37.stillAt(65536, 1), 1, 0);
        // 873 becomes 65,549 mod 65,537 = 12; 872 becomes 65,474
        LastLatch at13 = Checks.told(doors(13, 2, 2) + ";last a");
        Checks.edge(at13, "stillAt(873, 1)", at13.stillAt(873, 1), 1, 0);
        LastLatch at12 = Checks.told(doors(12, 2, 2) + ";last a");
        Checks.edge(at12, "stillAt(873, 1)", at12.stillAt(873, 1), -2, 0);
        LastLatch at75 = Checks.told(doors(75, 2, 2) + ";last a");
        Checks.edge(at75, "stillAt(872, 1)", at75.stillAt(872, 1), 1, 0);
        LastLatch at74 = Checks.told(doors(74, 2, 2) + ";last a");
        Checks.edge(at74, "stillAt(872, 1)", at74.stillAt(872, 1), -2, 0);
    }

    /** "below drafts one comes": 0 never, 100 always; the so manieth (0 the first) by numbers. */
    private static void drawBounds() {
        LastLatch never = Checks.told(doors(0, 2, 2) + ";last a");
        LastLatch always = Checks.told(doors(100, 2, 2) + ";last a");
        for (int seed = 0; seed < 65537; seed += 1489) {
            Checks.edge(never, "stillAt(" + seed + ", 60)", never.stillAt(seed, 60), -2, 0);
            Checks.edge(always, "stillAt(" + seed + ", 60)", always.stillAt(seed, 60), 1, 0);
        }
        // 0 becomes 74, then 5,624: of 2 the first, of 3 the third, of 4 the first
        int[] due = {0, 0, 2, 0};
        for (int open = 1; open <= 4; open++) {
            LastLatch x = Checks.told(doors(75, open, (1 << open) - 1));
            Checks.edge(x, "drafts(0, 1) of " + open, x.drafts(0, 1), due[open - 1], 0);
        }
        // open are b and d: of these the first is b
        LastLatch gaps = Checks.told(doors(75, 4, 10));
        Checks.edge(gaps, "drafts(0, 1)", gaps.drafts(0, 1), 1, 0);
        LastLatch not = Checks.told(doors(74, 4, 10));
        Checks.edge(not, "drafts(0, 1)", not.drafts(0, 1), 0, 0);
    }

    /** From 0: 74 and 5,624 (a is shut), then by 75: 28,630 (30, one comes, but all are shut): nothing changes. */
    private static void oneDrawWhereAllAreShut() {
        LastLatch x = Checks.told(doors(75, 2, 1) + ";last b");
        for (int n = 1; n <= 60; n++) {
            Checks.edge(x, "drafts(0, " + n + ")", x.drafts(0, n), 0, 0);
            Checks.edge(x, "stillAt(0, " + n + ")", x.stillAt(0, n), 1, 0);
        }
    }

    private static void stillAtEdges() {
        // sure drafts shut one each time: the fourth shuts the last one
        LastLatch x = Checks.told(doors(100, 4, 15));
        int[] due = {-2, -2, -2, -2, 4, 4};
        for (int n = 0; n < due.length; n++) {
            Checks.edge(x, "stillAt(1, " + n + ")", x.stillAt(1, n), due[n], 0);
        }
        Checks.edge(x, "stillAt(1, 60)", x.stillAt(1, 60), 4, 0);
    }

    private static void nailsAndPeopleDontMatter() {
        LastLatch x = Checks.told(doors(100, 2, 2) + ";person p;last a");
        x.nail(0);
        odds(x, 1, 1, 1, 1);
        mean(x, 1, 0, 1);
        // a nailed one is shut already, and not shut again
        odds(x, 0, 1, 0, 1);
        // from NOW, and not as told at first
        x.shut(1);
        mean(x, 0, 0, 1);
        Checks.edge(x, "stillAt(5, 9)", x.stillAt(5, 9), 0, 0);
        x.undo();
        mean(x, 0, 1, 1);
    }

    private static void askingChangesNothing() {
        LastLatch x = Checks.told(doors(100, 4, 15));
        String before = Checks.picture(x);
        x.odds(0, 3, true);
        x.shutOdds(0, 3, true);
        x.mean(3, true);
        x.drafts(7, 60);
        x.stillAt(7, 60);
        x.slams(3, true, true, true);
        x.rests(3);
        x.rest(3);
        x.odds(0, 4, true);
        x.drafts(-1, 0);
        Checks.same("questions", before, x);
        // asked again they answer the same: the SEED isn't kept
        Checks.edge(x, "drafts(7, 2) again", x.drafts(7, 2), x.drafts(7, 2), 0);
    }

    /** "1 (no LANE)", ahead of a number that is wrong, too. */
    private static void withoutALane() {
        LastLatch x = new LastLatch();
        for (int any : new int[] {LEAST, -1, 0, 1, 4, 10, MOST}) {
            Checks.edge(x, "slams(" + any + ")", slams(x, any, 4), -100, 1);
            Checks.edge(x, "rests(" + any + ")", x.rests(any), -1, 1);
            Checks.edge(x, "rest(" + any + ")", x.rest(any), -1, 1);
            Checks.edge(x, "odds(" + any + ", 0)", x.odds(any, 0, true), -1, 1);
            Checks.edge(x, "odds(0, " + any + ")", x.odds(0, any, false), -1, 1);
            Checks.edge(x, "shutOdds(" + any + ", 0)", x.shutOdds(any, 0, true), -1, 1);
            Checks.edge(x, "shutOdds(0, " + any + ")", x.shutOdds(0, any, false), -1, 1);
            Checks.edge(x, "mean(" + any + ")", x.mean(any, true), -1, 1);
            Checks.edge(x, "drafts(" + any + ", 0)", x.drafts(any, 0), -1, 1);
            Checks.edge(x, "drafts(0, " + any + ")", x.drafts(0, any), -1, 1);
            Checks.edge(x, "stillAt(" + any + ", 0)", x.stillAt(any, 0), -1, 1);
            Checks.edge(x, "stillAt(0, " + any + ")", x.stillAt(0, any), -1, 1);
        }
    }
}
