/** Promises 32 to 36: drafts by chance and by draws. */
public final class DraftTest {
    private static final String THREE =
        "lane drafts 30;door a plain;door b stuck;door c heavy;door d spring;last d;ajar a b;ajar b b;ajar c a";

    public static void main(String[] args) {
        byChance();
        edges();
        byDraws();
        refusals();
        Checks.finish();
    }

    private static void part(LastLatch x, String call, long upper, long lower, long dueUpper, long dueLower) {
        Checks.due(call + ", the upper", upper, dueUpper);
        Checks.due(call + ", the lower", lower, dueLower);
        Checks.due("trouble() behind " + call, x.trouble(), 0);
    }

    private static void odds(LastLatch x, int d, int n, long upper, long lower) {
        part(x, "odds(" + d + ", " + n + ")", x.odds(d, n, false), x.odds(d, n, true), upper, lower);
    }

    private static void shutOdds(LastLatch x, int d, int n, long upper, long lower) {
        part(x, "shutOdds(" + d + ", " + n + ")", x.shutOdds(d, n, false), x.shutOdds(d, n, true), upper, lower);
    }

    private static void mean(LastLatch x, int n, long upper, long lower) {
        part(x, "mean(" + n + ")", x.mean(n, false), x.mean(n, true), upper, lower);
    }

    /** Three are open, 30 in a hundred. */
    private static void byChance() {
        LastLatch x = Checks.told(THREE);
        odds(x, 3, 0, 1, 1);
        odds(x, 0, 0, 0, 1);
        odds(x, 3, 1, 7, 10);
        odds(x, 0, 1, 1, 10);
        odds(x, 1, 1, 1, 10);
        odds(x, 3, 2, 49, 100);
        // each of the three alike: (1 - 49/100) / 3
        odds(x, 2, 2, 17, 100);
        odds(x, 3, 3, 343, 1000);
        odds(x, 2, 3, 219, 1000);
        shutOdds(x, 3, 2, 1, 1);
        shutOdds(x, 0, 0, 0, 1);
        shutOdds(x, 0, 1, 1, 10);
        // three open: it isn't shut by 9/10 x (1/9 stays 3 open ..): 1 - (0.49 + 0.42 x 2/3 + 0.09 x 1/3)
        shutOdds(x, 1, 2, 1, 5);
        mean(x, 0, 3, 1);
        mean(x, 1, 27, 10);
        mean(x, 2, 12, 5);
        mean(x, 3, 21, 10);
    }

    private static void edges() {
        LastLatch never = Checks.told("lane drafts 0;door a plain;door b plain;ajar a b;last b");
        odds(never, 0, 3, 0, 1);
        odds(never, 1, 3, 1, 1);
        mean(never, 3, 1, 1);
        LastLatch always = Checks.told("lane drafts 100;door a plain;door b plain;ajar a b;last b");
        odds(always, 0, 1, 1, 1);
        odds(always, 0, 3, 1, 1);
        shutOdds(always, 0, 1, 1, 1);
        mean(always, 1, 0, 1);
        // NOW, not as told at first; a nailed one is shut
        LastLatch x = Checks.told("lane drafts 50;door a plain;door b plain;person p");
        mean(x, 3, 0, 1);
        x.nail(0);
        x.open(1);
        mean(x, 1, 1, 2);
        odds(x, 0, 1, 1, 2);
        odds(x, 1, 1, 1, 2);
        // four open doors three times, by drafts without a common divisor
        LastLatch four = Checks.told("lane drafts 37;door a plain;door b plain;door c plain;door d plain;"
            + "ajar a a;ajar b a;ajar c a;ajar d a");
        mean(four, 3, 289, 100);
        odds(four, 1, 1, 37, 400);
        // a is the default: 0.63^3 and a quarter of the rest
        odds(four, 0, 3, 1750141, 4000000);
    }

    private static void byDraws() {
        // from 0: 74, 5624, 28630, ..: below 30 in a hundred is 24 (the second), then the door's draw
        LastLatch x = Checks.told(THREE);
        long seed = 0;
        int[] open = {0, 1, 2};
        int count = 3;
        int last = 3;
        int still = -2;
        for (int n = 0; n <= 60; n++) {
            if (n > 0) {
                seed = (75 * seed + 74) % 65537;
                if (seed % 100 < 30 && count > 0) {
                    seed = (75 * seed + 74) % 65537;
                    int which = (int) (seed % count);
                    last = open[which];
                    System.arraycopy(open, which + 1, open, which, count - 1 - which);
                    count--;
                }
                still = count == 0 && still == -2 ? n : still;
            }
            Checks.granted(x, "drafts(0, " + n + ")", x.drafts(0, n), last);
            Checks.granted(x, "stillAt(0, " + n + ")", x.stillAt(0, n), still);
        }
        Checks.due("all shut in the end", still > 0, true);
        // 65,536 becomes 75 x -1 + 74 = -1, 65,536 again: mod 100 it is 36
        LastLatch at36 = Checks.told("lane drafts 36;door a plain;door b plain;ajar a b;last b");
        Checks.granted(at36, "drafts(65536, 60)", at36.drafts(65536, 60), 1);
        Checks.granted(at36, "stillAt(65536, 60)", at36.stillAt(65536, 60), -2);
        LastLatch at37 = Checks.told("lane drafts 37;door a plain;door b plain;ajar a b;last b");
        Checks.granted(at37, "drafts(65536, 1)", at37.drafts(65536, 1), 0);
        Checks.granted(at37, "stillAt(65536, 1)", at37.stillAt(65536, 1), 1);
        // it asks only: nothing is shut by it
        Checks.granted(at37, "door(0, 1)", at37.door(0, 1), 2);
        LastLatch shut = Checks.told("lane drafts 100;door a plain");
        Checks.granted(shut, "stillAt(7, 0)", shut.stillAt(7, 0), 0);
        Checks.granted(shut, "stillAt(7, 60)", shut.stillAt(7, 60), 0);
    }

    private static void refusals() {
        LastLatch x = Checks.told(THREE);
        for (int bad : new int[] {-1, 4, Integer.MAX_VALUE, Integer.MIN_VALUE}) {
            for (boolean lower : new boolean[] {false, true}) {
                Checks.refused(x, "odds(" + bad + ", 9)", x.odds(bad, 9, lower), 1);
                Checks.refused(x, "odds(0, " + bad + ")", x.odds(0, bad, lower), 2);
                Checks.refused(x, "shutOdds(" + bad + ", 9)", x.shutOdds(bad, 9, lower), 1);
                Checks.refused(x, "shutOdds(0, " + bad + ")", x.shutOdds(0, bad, lower), 2);
                Checks.refused(x, "mean(" + bad + ")", x.mean(bad, lower), 2);
            }
        }
        for (int bad : new int[] {-1, 65537, Integer.MAX_VALUE, Integer.MIN_VALUE}) {
            Checks.refused(x, "drafts(" + bad + ", 1)", x.drafts(bad, 1), 2);
            Checks.refused(x, "stillAt(" + bad + ", 1)", x.stillAt(bad, 1), 2);
        }
        for (int bad : new int[] {-1, 61, Integer.MAX_VALUE, Integer.MIN_VALUE}) {
            Checks.refused(x, "drafts(0, " + bad + ")", x.drafts(0, bad), 2);
            Checks.refused(x, "stillAt(0, " + bad + ")", x.stillAt(0, bad), 2);
        }
    }
}
