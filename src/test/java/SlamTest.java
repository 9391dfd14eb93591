/** Promises 29 to 31: two who slam, and their rests. */
public final class SlamTest {
    public static void main(String[] args) {
        // nobody need be there
        LastLatch x = Checks.told("lane drafts 0;door a plain");
        for (int draught = 0; draught <= 9; draught++) {
            shares(x, draught);
        }
        Checks.granted(x, "rests(0)", x.rests(0), 2);
        Checks.granted(x, "rest(0)", x.rest(0), 1);
        Checks.granted(x, "rests(1)", x.rests(1), 3);
        Checks.granted(x, "rest(1)", x.rest(1), 1);
        for (int draught = 2; draught <= 9; draught++) {
            Checks.granted(x, "rests(" + draught + ")", x.rests(draught), 1);
            Checks.granted(x, "rest(" + draught + ")", x.rest(draught), 11);
        }
        for (int bad : new int[] {-1, 10, Integer.MAX_VALUE, Integer.MIN_VALUE}) {
            Checks.refused(x, "slams(" + bad + ")", x.slams(bad, true, false, false), -100, 2);
            Checks.refused(x, "rests(" + bad + ")", x.rests(bad), 2);
            Checks.refused(x, "rest(" + bad + ")", x.rest(bad), 2);
        }
        LastLatch none = new LastLatch();
        Checks.refused(none, "slams(10) without a LANE", none.slams(10, true, false, false), -100, 1);
        Checks.refused(none, "rests(0) without a LANE", none.rests(0), 1);
        Checks.refused(none, "rest(-1) without a LANE", none.rest(-1), 1);
        Checks.finish();
    }

    private static void shares(LastLatch x, int draught) {
        Checks.granted(x, "both", x.slams(draught, true, true, false), 0);
        Checks.granted(x, "both", x.slams(draught, true, true, true), 0);
        Checks.granted(x, "neither", x.slams(draught, false, false, false), 2);
        Checks.granted(x, "neither", x.slams(draught, false, false, true), 2);
        Checks.granted(x, "the one alone", x.slams(draught, true, false, false), 4);
        Checks.granted(x, "the one alone, the other's", x.slams(draught, true, false, true), 1 - draught);
        Checks.granted(x, "the other alone", x.slams(draught, false, true, true), 4);
        Checks.granted(x, "the other alone, the one's", x.slams(draught, false, true, false), 1 - draught);
    }
}
