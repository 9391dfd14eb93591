import java.math.BigInteger;
import java.util.ArrayDeque;
import java.util.ArrayList;
import java.util.Arrays;
import java.util.HashMap;
import java.util.LinkedHashMap;
import java.util.List;
import java.util.Map;
import java.util.Random;

/** A lane again, in the plainest way and by other means than the class: what each question's answer must be. */
final class Model {
    static final int CANT = -2;
    static final String[] KINDS = {"plain", "spring", "heavy", "stuck"};

    /** Who is where (0 the lane, else the room and 1), which doors lead where (0 shut), which was last. */
    static final class State {
        final int[] at;
        final int[] lead;
        int last;

        State(int[] at, int[] lead, int last) {
            this.at = at.clone();
            this.lead = lead.clone();
            this.last = last;
        }

        State copy() {
            return new State(at, lead, last);
        }

        String key() {
            return Arrays.toString(at) + Arrays.toString(lead) + last;
        }
    }

    /** One step: its number, what comes of it, whether a door was shut by it. */
    record Step(int number, State then, boolean shuts) {
    }

    int drafts;
    int doors;
    int people;
    int[] toldKind;
    boolean[] locked;
    boolean[] key;
    int[] home;
    int[] wants;
    int[] seen;
    State first;
    State now;
    int[] kind;
    boolean[] nailed;
    String text;

    static Model random(Random dice, int mostDoors) {
        Model m = new Model();
        m.drafts = dice.nextInt(4) == 0 ? dice.nextInt(2) * 100 : dice.nextInt(101);
        m.doors = 1 + dice.nextInt(mostDoors);
        m.people = dice.nextInt(8) == 0 ? 0 : 1 + dice.nextInt(2);
        m.toldKind = new int[m.doors];
        m.locked = new boolean[m.doors];
        m.key = new boolean[m.people];
        m.home = new int[m.people];
        m.wants = new int[m.people];
        m.seen = new int[m.people];
        int[] at = new int[m.people];
        int[] lead = new int[m.doors];
        int told = dice.nextInt(3) == 0 ? -1 : dice.nextInt(m.doors);
        for (int d = 0; d < m.doors; d++) {
            m.toldKind[d] = dice.nextInt(3) == 0 ? dice.nextInt(4) : dice.nextInt(2);
            m.locked[d] = dice.nextInt(5) == 0;
            lead[d] = d != told && dice.nextInt(3) == 0 ? 1 + dice.nextInt(m.doors) : 0;
        }
        for (int p = 0; p < m.people; p++) {
            m.key[p] = dice.nextInt(2) == 0;
            at[p] = dice.nextInt(3) == 0 ? 1 + dice.nextInt(m.doors) : 0;
            m.home[p] = dice.nextInt(3) == 0 ? CANT : 1 + dice.nextInt(m.doors);
            m.wants[p] = dice.nextInt(3) == 0 ? CANT : dice.nextInt(m.doors + 1);
            m.seen[p] = dice.nextInt(3) == 0 ? CANT : dice.nextInt(m.doors + 1);
        }
        m.first = new State(at, lead, Math.max(told, 0));
        m.now = m.first.copy();
        m.kind = m.toldKind.clone();
        m.nailed = new boolean[m.doors];
        m.text = m.write(dice, told >= 0);
        return m;
    }

    static String doorName(int d) {
        return new String[] {"a", "ab", "gate", "plain"}[d];
    }

    static String personName(int p) {
        return new String[] {"p", "drafts"}[p];
    }

    private static String placeName(int place) {
        return place == 0 ? "lane" : doorName(place - 1);
    }

    private String write(Random dice, boolean lastTold) {
        List<String> lines = new ArrayList<>();
        for (int p = 0; p < people; p++) {
            lines.add("person " + personName(p));
        }
        for (int d = 0; d < doors; d++) {
            lines.add("door " + doorName(d) + " " + KINDS[toldKind[d]]);
        }
        List<String> rest = new ArrayList<>();
        for (int d = 0; d < doors; d++) {
            if (locked[d]) {
                rest.add("locked " + doorName(d));
            }
            if (first.lead[d] != 0) {
                rest.add("ajar " + doorName(d) + " " + doorName(first.lead[d] - 1));
            }
        }
        if (lastTold) {
            rest.add("last " + doorName(first.last));
        }
        for (int p = 0; p < people; p++) {
            if (key[p]) {
                rest.add("key " + personName(p));
            }
            addPlace(rest, "inside", p, first.at[p] == 0 ? CANT : first.at[p]);
            addPlace(rest, "home", p, home[p]);
            addPlace(rest, "wants", p, wants[p]);
            addPlace(rest, "seen", p, seen[p]);
        }
        java.util.Collections.shuffle(rest, dice);
        lines.addAll(rest);
        StringBuilder all = new StringBuilder("lane drafts " + drafts);
        for (String line : lines) {
            all.append(dice.nextInt(4) == 0 ? " ; " : ";").append(line);
        }
        return all.toString();
    }

    private static void addPlace(List<String> lines, String word, int p, int place) {
        if (place != CANT) {
            lines.add(word + " " + personName(p) + " " + placeName(place));
        }
    }

    int stepCount() {
        return doors * (2 + people);
    }

    List<Step> steps(State s, int[] kinds, boolean[] nails, int alone) {
        List<Step> all = new ArrayList<>();
        int inLane = 0;
        boolean keyThere = false;
        for (int p = 0; p < people; p++) {
            if (s.at[p] == 0 && (alone < 0 || alone == p)) {
                inLane++;
                keyThere |= key[p];
            }
        }
        for (int d = 0; d < doors; d++) {
            boolean enough = inLane >= (kinds[d] == 2 ? 2 : 1) && (!locked[d] || keyThere);
            if (s.lead[d] == 0 && !nails[d] && enough) {
                State then = s.copy();
                then.lead[d] = s.last + 1;
                all.add(new Step(d, then, false));
            }
        }
        for (int d = 0; d < doors; d++) {
            boolean near = false;
            for (int p = 0; p < people; p++) {
                near |= (alone < 0 || alone == p) && (s.at[p] == 0 || s.at[p] == s.lead[d]);
            }
            if (s.lead[d] != 0 && kinds[d] != 3 && near) {
                State then = s.copy();
                then.lead[d] = 0;
                then.last = d;
                all.add(new Step(doors + d, then, true));
            }
        }
        for (int p = 0; p < people; p++) {
            for (int d = 0; d < doors; d++) {
                boolean mine = alone < 0 || alone == p;
                if (mine && s.lead[d] != 0 && (s.at[p] == 0 || s.at[p] == s.lead[d])) {
                    State then = s.copy();
                    then.at[p] = s.at[p] == 0 ? s.lead[d] : 0;
                    if (kinds[d] == 1) {
                        then.lead[d] = 0;
                        then.last = d;
                    }
                    all.add(new Step(2 * doors + p * doors + d, then, kinds[d] == 1));
                }
            }
        }
        return all;
    }

    List<Step> stepsNow() {
        return steps(now, kind, nailed, -1);
    }

    /** All that can be come to, with how many steps each takes. */
    Map<String, Integer> depths(boolean[] nails, Map<String, State> states) {
        Map<String, Integer> depth = new LinkedHashMap<>();
        ArrayDeque<State> queue = new ArrayDeque<>();
        depth.put(now.key(), 0);
        states.put(now.key(), now);
        queue.add(now);
        while (!queue.isEmpty()) {
            State s = queue.remove();
            for (Step step : steps(s, kind, nails, -1)) {
                String k = step.then().key();
                if (!depth.containsKey(k)) {
                    depth.put(k, depth.get(s.key()) + 1);
                    states.put(k, step.then());
                    queue.add(step.then());
                }
            }
        }
        return depth;
    }

    static boolean isAt(State s, int[] wanted) {
        for (int p = 0; p < wanted.length; p++) {
            if (wanted[p] != CANT && s.at[p] != wanted[p]) {
                return false;
            }
        }
        return true;
    }

    int[] goal(int what) {
        return what == 0 ? wants : what == 1 ? home : new int[people];
    }

    /** For each state the least cost to one that fits, by relaxing until nothing changes. */
    Map<String, Integer> costs(Map<String, State> states, int[] wanted, boolean shuttingsOnly) {
        Map<String, List<Step>> next = new HashMap<>();
        Map<String, Integer> cost = new HashMap<>();
        for (Map.Entry<String, State> one : states.entrySet()) {
            next.put(one.getKey(), steps(one.getValue(), kind, nailed, -1));
            cost.put(one.getKey(), isAt(one.getValue(), wanted) ? 0 : 1_000_000);
        }
        List<String> keys = new ArrayList<>(states.keySet());
        java.util.Collections.reverse(keys);
        boolean changed = true;
        while (changed) {
            changed = false;
            for (String k : keys) {
                for (Step step : next.get(k)) {
                    int more = shuttingsOnly ? step.shuts() ? 1 : 0 : 1;
                    int by = cost.get(step.then().key()) + more;
                    if (by < cost.get(k)) {
                        cost.put(k, by);
                        changed = true;
                    }
                }
            }
        }
        return cost;
    }

    List<Integer> firstRow(Map<String, Integer> cost) {
        List<Integer> row = new ArrayList<>();
        State s = now;
        while (cost.get(s.key()) > 0) {
            for (Step step : stepsOf(s)) {
                if (cost.get(step.then().key()) == cost.get(s.key()) - 1) {
                    row.add(step.number());
                    s = step.then();
                    break;
                }
            }
        }
        return row;
    }

    private List<Step> stepsOf(State s) {
        return steps(s, kind, nailed, -1);
    }

    /** [0] how many rows of n steps fit, [1] the doors that are last behind them. */
    int[] rows(State from, int n) {
        int[] sum = new int[2];
        if (n == 0) {
            if (isAt(from, seen)) {
                sum[0] = 1;
                sum[1] = 1 << from.last;
            }
            return sum;
        }
        for (Step step : steps(from, toldKind, new boolean[doors], -1)) {
            int[] part = rows(step.then(), n - 1);
            sum[0] += part[0];
            sum[1] |= part[1];
        }
        return sum;
    }

    int rowsBeginning(int number, int n) {
        for (Step step : steps(first, toldKind, new boolean[doors], -1)) {
            if (step.number() == number) {
                return rows(step.then(), n - 1)[0];
            }
        }
        return 0;
    }

    int nails(int p, int room) {
        int best = CANT;
        for (int set = 0; set < 1 << doors; set++) {
            boolean[] all = nailed.clone();
            boolean allShut = true;
            for (int d = 0; d < doors; d++) {
                if ((set >> d & 1) != 0) {
                    allShut &= now.lead[d] == 0;
                    all[d] = true;
                }
            }
            if (!allShut || best != CANT && Integer.bitCount(best) <= Integer.bitCount(set)) {
                continue;
            }
            Map<String, State> states = new HashMap<>();
            depths(all, states);
            boolean comes = false;
            for (State s : states.values()) {
                comes |= s.at[p] == room + 1;
            }
            best = comes ? best : set;
        }
        return best;
    }

    boolean gets(State s, int p, int room, int left, boolean his) {
        if (left == 0) {
            return s.at[p] == room + 1;
        }
        boolean any = gets(s, p, room, left - 1, !his);
        boolean every = any;
        for (Step step : steps(s, kind, nailed, his ? p : 1 - p)) {
            boolean then = gets(step.then(), p, room, left - 1, !his);
            any |= then;
            every &= then;
        }
        return his ? any : every;
    }

    int opensWith(int p, int room, int n) {
        if (gets(now, p, room, n - 1, false)) {
            return CANT;
        }
        for (Step step : steps(now, kind, nailed, p)) {
            if (gets(step.then(), p, room, n - 1, false)) {
                return step.number();
            }
        }
        return CANT;
    }

    /** An exact fraction in lowest terms. */
    record Part(BigInteger upper, BigInteger lower) {
        static final Part ZERO = of(0, 1);

        static Part of(long upper, long lower) {
            return new Part(BigInteger.valueOf(upper), BigInteger.valueOf(lower)).lowest();
        }

        private Part lowest() {
            BigInteger common = upper.gcd(lower);
            return new Part(upper.divide(common), lower.divide(common));
        }

        Part plus(Part other) {
            BigInteger sum = upper.multiply(other.lower).add(other.upper.multiply(lower));
            return new Part(sum, lower.multiply(other.lower)).lowest();
        }

        Part times(Part other) {
            return new Part(upper.multiply(other.upper), lower.multiply(other.lower)).lowest();
        }
    }

    /** The mean of something behind n drafts: door d last (0), shut (1), or how many are open (2). */
    Part chance(State s, int n, int what, int d) {
        List<Integer> open = openDoors(s);
        if (n == 0) {
            long worth = what == 0 ? s.last == d ? 1 : 0 : what == 1 ? s.lead[d] == 0 ? 1 : 0 : open.size();
            return Part.of(worth, 1);
        }
        if (open.isEmpty()) {
            return chance(s, n - 1, what, d);
        }
        Part sum = Part.of(100 - drafts, 100).times(chance(s, n - 1, what, d));
        for (int shut : open) {
            Part likely = Part.of(drafts, 100L * open.size());
            sum = sum.plus(likely.times(chance(blownShut(s, shut), n - 1, what, d)));
        }
        return sum;
    }

    private static State blownShut(State s, int d) {
        State then = s.copy();
        then.lead[d] = 0;
        then.last = d;
        return then;
    }

    private static List<Integer> openDoors(State s) {
        List<Integer> open = new ArrayList<>();
        for (int d = 0; d < s.lead.length; d++) {
            if (s.lead[d] != 0) {
                open.add(d);
            }
        }
        return open;
    }

    /** [0] the last door behind n draws, [1] behind how many all are shut first. */
    int[] drawn(long seed, int n) {
        State s = now;
        int still = openDoors(s).isEmpty() ? 0 : CANT;
        for (int time = 1; time <= n; time++) {
            seed = (75 * seed + 74) % 65537;
            List<Integer> open = openDoors(s);
            if (seed % 100 < drafts && !open.isEmpty()) {
                seed = (75 * seed + 74) % 65537;
                s = blownShut(s, open.get((int) (seed % open.size())));
            }
            if (still == CANT && openDoors(s).isEmpty()) {
                still = time;
            }
        }
        return new int[] {s.last, still};
    }
}
