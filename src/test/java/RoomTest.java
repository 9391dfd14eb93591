import com.sun.management.ThreadMXBean;
import java.lang.management.ManagementFactory;
import java.lang.reflect.Array;
import java.lang.reflect.Field;
import java.lang.reflect.Modifier;
import java.util.IdentityHashMap;
import java.util.Map;
import java.util.NoSuchElementException;
import java.util.Random;

/** No call throws but led(), for any arguments in any state; and a run's calls keep to a small room. */
public final class RoomTest {
    private static final int[] EDGES = {
        Integer.MIN_VALUE, -65537, -101, -2, -1, 0, 1, 2, 3, 4, 5, 6, 7, 8, 9, 12, 15, 16, 17, 59, 60, 61, 100, 800,
        801, 65535, 65536, 65537, 1 << 30, Integer.MAX_VALUE};

    public static void main(String[] args) throws Exception {
        Random dice = new Random(5);
        for (int run = 0; run < 120; run++) {
            anyCalls(dice, run);
        }
        dearest();
        Checks.finish();
    }

    private static void anyCalls(Random dice, int run) {
        LastLatch x = new LastLatch();
        for (int call = 0; call < 700; call++) {
            int which = dice.nextInt(60);
            try {
                if (which >= 46 && run % 10 != 0) {
                    Checks.tell(x, Model.random(dice, 1 + run % 4).text);
                } else {
                    ask(x, which, dice);
                }
            } catch (RuntimeException e) {
                Checks.due("call " + which + " throws " + e, -1, 0);
            }
        }
        Checks.due("700 calls", 1, 1);
    }

    private static int any(Random dice) {
        int sort = dice.nextInt(8);
        return sort == 0 ? dice.nextInt() : sort == 1 ? EDGES[dice.nextInt(EDGES.length)] : dice.nextInt(5);
    }

    private static void ask(LastLatch x, int which, Random dice) {
        int a = any(dice);
        int b = any(dice);
        int c = any(dice);
        boolean one = dice.nextBoolean();
        switch (which) {
            case 0 -> x.feed(a, b, c, a, b);
            case 1 -> x.lane(a);
            case 2 -> x.fault();
            case 3 -> x.where();
            case 4 -> x.door(a, b);
            case 5 -> x.person(a, b);
            case 6 -> x.last();
            case 7 -> x.can(a);
            case 8 -> x.choices();
            case 9 -> x.seen();
            case 10 -> x.shutIn();
            case 11 -> x.errand(a);
            case 12 -> x.errandAt(a, b);
            case 13 -> x.shuttings(a);
            case 14 -> x.wayTo(a, b);
            case 15 -> x.comes(a);
            case 16 -> x.reach();
            case 17 -> x.placings();
            case 18 -> x.deepest();
            case 19 -> x.stuckOnes();
            case 20 -> x.rows(a);
            case 21 -> x.lastBy(a);
            case 22 -> x.firstBy(a, b);
            case 23 -> x.fewestSeen();
            case 24 -> x.nails(a, b);
            case 25 -> x.gets(a, b, c);
            case 26 -> x.opensWith(a, b, c);
            case 27 -> x.slams(a, one, dice.nextBoolean(), dice.nextBoolean());
            case 28 -> x.rests(a);
            case 29 -> x.rest(a);
            case 30 -> x.odds(a, b, one);
            case 31 -> x.shutOdds(a, b, one);
            case 32 -> x.mean(a, one);
            case 33 -> x.drafts(a, b);
            case 34 -> x.stillAt(a, b);
            case 35 -> x.open(a);
            case 36 -> x.shut(a);
            case 37 -> x.go(a, b);
            case 38 -> x.nail(a);
            case 39 -> x.spring(a);
            case 40 -> x.undo();
            case 41 -> x.image();
            case 42 -> x.back(a);
            case 43 -> leadOn(x, a);
            case 44 -> x.size(a);
            default -> x.trouble();
        }
    }

    private static void leadOn(LastLatch x, int i) {
        try {
            x.led(i);
        } catch (NoSuchElementException e) {
            Checks.due("led(" + i + ") throws rightly", i < 0 || x.choices() <= i, true);
        }
    }

    /** The dearest calls again and again, with new lanes between them: what is kept, and what was made in all. */
    private static void dearest() throws Exception {
        ThreadMXBean bean = (ThreadMXBean) ManagementFactory.getThreadMXBean();
        String[] texts = new String[128];
        for (int i = 0; i < texts.length; i++) {
            texts[i] = "lane drafts 9;door a " + Model.KINDS[i % 2] + ";door b " + Model.KINDS[i / 2 % 2]
                + ";door c plain;door d spring;ajar b a;ajar c d;ajar d a;person p;person q;seen p c;wants p d";
        }
        byte[][] bytes = new byte[texts.length][];
        for (int i = 0; i < texts.length; i++) {
            bytes[i] = Checks.bytes(texts[i]);
        }
        LastLatch x = new LastLatch();
        long before = bean.getCurrentThreadAllocatedBytes();
        for (byte[] text : bytes) {
            Checks.feed(x, text);
            x.lane(text.length);
            x.reach();
            x.shuttings(0);
            x.rows(6);
            x.nails(0, 0);
            x.gets(0, 0, 4);
            x.odds(0, 3, true);
        }
        long made = bean.getCurrentThreadAllocatedBytes() - before;
        System.out.println("128 lanes with the dearest calls made " + made + " bytes");
        Checks.due("bytes made are few", made < 3_000_000, true);
        long kept = elements(x, new IdentityHashMap<>());
        System.out.println("an object keeps " + kept + " fields and elements at the most");
        Checks.due("what is kept is little", kept < 200_000, true);
    }

    private static long elements(Object o, Map<Object, Boolean> met) throws Exception {
        if (o == null || met.put(o, true) != null) {
            return 0;
        }
        if (o.getClass().isArray()) {
            return Array.getLength(o);
        }
        long sum = 0;
        for (Field f : o.getClass().getDeclaredFields()) {
            if (!Modifier.isStatic(f.getModifiers())) {
                f.setAccessible(true);
                sum += 1 + (f.getType().isPrimitive() ? 0 : elements(f.get(o), met));
            }
        }
        return sum;
    }
}
