import java.util.ArrayDeque;
import java.util.ArrayList;
import java.util.HashSet;
import java.util.LinkedHashMap;
import java.util.List;
import java.util.Map;
import java.util.Random;
import java.util.Set;

/** Promises 3, 6 to 28, 32 to 46 against the plain model, on lanes thrown by dice, between acts. */
public final class ModelTest {
    private static Model m;
    private static LastLatch x;
    private static final ArrayDeque<Kept> KEPT = new ArrayDeque<>();
    private static final List<Kept> IMAGES = new ArrayList<>();

    public static void main(String[] args) {
        Random dice = new Random(20261118);
        for (int turn = 0; turn < 260; turn++) {
            runOne(dice, 1 + turn % 3, true);
        }
        for (int turn = 0; turn < 6; turn++) {
            runOne(dice, 4, false);
        }
        Checks.finish();
    }

    private static void runOne(Random dice, int mostDoors, boolean all) {
        m = Model.random(dice, mostDoors);
        // some lanes are told to an object that had others
        x = x == null || dice.nextInt(3) == 0 ? new LastLatch() : x;
        KEPT.clear();
        IMAGES.clear();
        Checks.granted(x, "lane of " + m.text, Checks.tell(x, m.text), m.doors);
        checkRows(dice);
        for (int stop = 0; stop < (all ? 3 : 1); stop++) {
            checkNow();
            checkReach();
            checkErrands();
            checkNails();
            checkContest(dice);
            checkChance();
            checkDraws(dice);
            act(dice, 24);
        }
        checkRows(dice);
    }

    private static String at(String call) {
        return call + " of " + m.text + " at " + m.now.key();
    }

    private static void checkNow() {
        List<Model.Step> can = m.stepsNow();
        Checks.granted(x, at("choices"), x.choices(), can.size());
        Set<Integer> numbers = new HashSet<>();
        for (int i = 0; i < can.size(); i++) {
            Checks.due(at("led " + i), x.led(i), can.get(i).number());
            numbers.add(can.get(i).number());
        }
        Checks.throwsNoSuch(at("led"), x, can.size());
        for (int step = 0; step < m.stepCount(); step++) {
            Checks.granted(x, at("can " + step), x.can(step), numbers.contains(step) ? 1 : 0);
        }
        Checks.refused(x, at("can"), x.can(m.stepCount()), 1);
        Checks.granted(x, at("last"), x.last(), m.now.last);
        int rooms = 0;
        for (int d = 0; d < m.doors; d++) {
            rooms |= m.now.lead[d] == 0 ? 0 : 1 << m.now.lead[d] - 1;
            int inside = 0;
            for (int p = 0; p < m.people; p++) {
                inside |= m.now.at[p] == d + 1 ? 1 << p : 0;
            }
            int[] due = {m.kind[d], m.now.lead[d], m.locked[d] ? 1 : 0, m.nailed[d] ? 1 : 0, inside,
                m.now.last == d ? 1 : 0};
            for (int what = 0; what < due.length; what++) {
                Checks.granted(x, at("door " + d + " " + what), x.door(d, what), due[what]);
            }
        }
        int shutIn = 0;
        for (int p = 0; p < m.people; p++) {
            int place = m.now.at[p];
            shutIn |= place != 0 && (rooms >> place - 1 & 1) == 0 ? 1 << p : 0;
            int[] due = {place, m.key[p] ? 1 : 0, m.home[p], m.wants[p], m.seen[p]};
            for (int what = 0; what < due.length; what++) {
                Checks.granted(x, at("person " + p + " " + what), x.person(p, what), due[what]);
            }
        }
        Checks.granted(x, at("seen"), x.seen(), rooms);
        Checks.granted(x, at("shutIn"), x.shutIn(), shutIn);
    }

    private static void checkReach() {
        Map<String, Model.State> states = new LinkedHashMap<>();
        Map<String, Integer> depth = m.depths(m.nailed, states);
        Set<String> placings = new HashSet<>();
        int deepest = 0;
        int stuck = 0;
        int[][] way = new int[m.people][m.doors + 1];
        for (int[] row : way) {
            java.util.Arrays.fill(row, Model.CANT);
        }
        for (String key : states.keySet()) {
            Model.State s = states.get(key);
            placings.add(java.util.Arrays.toString(s.at));
            deepest = Math.max(deepest, depth.get(key));
            stuck += m.steps(s, m.kind, m.nailed, -1).isEmpty() ? 1 : 0;
            for (int p = 0; p < m.people; p++) {
                int before = way[p][s.at[p]];
                way[p][s.at[p]] = before == Model.CANT ? depth.get(key) : Math.min(before, depth.get(key));
            }
        }
        for (int p = 0; p < m.people; p++) {
            int comes = 0;
            for (int place = 0; place <= m.doors; place++) {
                Checks.granted(x, at("wayTo " + p + " " + place), x.wayTo(p, place), way[p][place]);
                comes |= way[p][place] == Model.CANT ? 0 : 1 << place;
            }
            Checks.granted(x, at("comes " + p), x.comes(p), comes);
        }
        Checks.granted(x, at("reach"), x.reach(), states.size());
        Checks.granted(x, at("placings"), x.placings(), placings.size());
        Checks.granted(x, at("deepest"), x.deepest(), deepest);
        Checks.granted(x, at("stuckOnes"), x.stuckOnes(), stuck);
    }

    private static void checkErrands() {
        Map<String, Model.State> states = new LinkedHashMap<>();
        m.depths(m.nailed, states);
        for (int what = 0; what < 3; what++) {
            Map<String, Integer> cost = m.costs(states, m.goal(what), false);
            int fewest = cost.get(m.now.key());
            if (fewest >= 1_000_000) {
                Checks.granted(x, at("errand " + what), x.errand(what), -2);
                Checks.granted(x, at("shuttings " + what), x.shuttings(what), -2);
                Checks.refused(x, at("errandAt " + what), x.errandAt(what, 0), 1);
                continue;
            }
            Checks.granted(x, at("errand " + what), x.errand(what), fewest);
            List<Integer> row = m.firstRow(cost);
            for (int i = 0; i < row.size(); i++) {
                Checks.granted(x, at("errandAt " + what + " " + i), x.errandAt(what, i), row.get(i));
            }
            Checks.refused(x, at("errandAt " + what), x.errandAt(what, row.size()), 1);
            int shuttings = m.costs(states, m.goal(what), true).get(m.now.key());
            Checks.granted(x, at("shuttings " + what), x.shuttings(what), shuttings);
        }
    }

    private static void checkRows(Random dice) {
        int fewest = -2;
        int most = m.doors * m.people <= 3 ? 6 : 4;
        for (int n = most; n >= 0; n--) {
            int[] due = m.rows(m.first, n);
            Checks.granted(x, at("rows " + n), x.rows(n), due[0]);
            Checks.granted(x, at("lastBy " + n), x.lastBy(n), due[1]);
            fewest = due[0] > 0 ? n : fewest;
            int step = dice.nextInt(m.stepCount());
            if (n > 0) {
                Checks.granted(x, at("firstBy " + step + " " + n), x.firstBy(step, n), m.rowsBeginning(step, n));
            }
        }
        if (most == 6 || fewest != -2) {
            Checks.granted(x, at("fewestSeen"), x.fewestSeen(), fewest);
        }
        int sum = 0;
        for (int step = 0; step < m.stepCount(); step++) {
            sum += x.firstBy(step, 6);
        }
        Checks.due(at("rows 6"), x.rows(6), sum);
    }

    private static void checkNails() {
        for (int p = 0; p < m.people; p++) {
            for (int room = 0; room < m.doors && (m.doors < 4 || room == 2); room++) {
                Checks.granted(x, at("nails " + p + " " + room), x.nails(p, room), m.nails(p, room));
            }
        }
    }

    private static void checkContest(Random dice) {
        int p = dice.nextInt(2);
        for (int room = 0; room < m.doors; room++) {
            for (int n = 0; n <= 4; n++) {
                String call = p + " " + room + " " + n;
                if (m.people < 2) {
                    Checks.refused(x, at("gets " + call), x.gets(p, room, n), 1);
                    Checks.refused(x, at("opensWith " + call), x.opensWith(p, room, n), 1);
                    continue;
                }
                int due = m.gets(m.now, p, room, n, true) ? 1 : 0;
                Checks.granted(x, at("gets " + call), x.gets(p, room, n), due);
                if (n > 0) {
                    Checks.granted(x, at("opensWith " + call), x.opensWith(p, room, n), m.opensWith(p, room, n));
                }
            }
        }
    }

    private static void checkChance() {
        for (int n = 0; n <= 3; n++) {
            for (int d = 0; d < m.doors; d++) {
                Model.Part last = m.chance(m.now, n, 0, d);
                Checks.granted(x, at("odds"), x.odds(d, n, false), last.upper().longValueExact());
                Checks.granted(x, at("odds"), x.odds(d, n, true), last.lower().longValueExact());
                Model.Part shut = m.chance(m.now, n, 1, d);
                Checks.granted(x, at("shutOdds"), x.shutOdds(d, n, false), shut.upper().longValueExact());
                Checks.granted(x, at("shutOdds"), x.shutOdds(d, n, true), shut.lower().longValueExact());
            }
            Model.Part mean = m.chance(m.now, n, 2, 0);
            Checks.granted(x, at("mean"), x.mean(n, false), mean.upper().longValueExact());
            Checks.granted(x, at("mean"), x.mean(n, true), mean.lower().longValueExact());
        }
    }

    private static void checkDraws(Random dice) {
        for (int i = 0; i < 6; i++) {
            int seed = dice.nextInt(65537);
            int n = i == 0 ? 60 : dice.nextInt(9);
            int[] due = m.drawn(seed, n);
            Checks.granted(x, at("drafts " + seed + " " + n), x.drafts(seed, n), due[0]);
            Checks.granted(x, at("stillAt " + seed + " " + n), x.stillAt(seed, n), due[1]);
        }
    }

    /** Acts on both; some are undone, some gone back from by an image. */
    private static void act(Random dice, int most) {
        int count = 1 + dice.nextInt(most);
        for (int i = 0; i < count; i++) {
            int what = dice.nextInt(12);
            int d = dice.nextInt(m.doors);
            Kept before = new Kept(m.now, m.kind.clone(), m.nailed.clone());
            if (what == 0) {
                boolean due = !m.nailed[d] && m.now.lead[d] == 0;
                Checks.due(at("nail"), x.nail(d), due);
                m.nailed[d] |= due;
                keep(before, due);
            } else if (what == 1) {
                int then = m.kind[d] < 2 ? 1 - m.kind[d] : -1;
                Checks.due(at("spring"), x.spring(d), then);
                m.kind[d] = then < 0 ? m.kind[d] : then;
                keep(before, then >= 0);
            } else if (what == 2) {
                Checks.due(at("undo"), x.undo(), !KEPT.isEmpty());
                restore(KEPT.isEmpty() ? before : KEPT.removeLast());
            } else if (what == 3) {
                Checks.due(at("image"), x.image(), IMAGES.size() < 3 ? IMAGES.size() : -1);
                if (IMAGES.size() < 3) {
                    IMAGES.add(before);
                }
            } else if (what == 4) {
                int number = dice.nextInt(3);
                Checks.due(at("back"), x.back(number), number < IMAGES.size());
                if (number < IMAGES.size()) {
                    restore(IMAGES.get(number));
                    KEPT.clear();
                }
            } else {
                keep(before, step(dice));
            }
            Checks.due(at("size(10)"), x.size(10), KEPT.size());
            Checks.due(at("size(11)"), x.size(11), IMAGES.size());
        }
    }

    private record Kept(Model.State now, int[] kind, boolean[] nailed) {
    }

    private static void keep(Kept before, boolean done) {
        if (done) {
            KEPT.addLast(before);
        }
        if (KEPT.size() > 16) {
            KEPT.removeFirst();
        }
    }

    private static void restore(Kept kept) {
        m.now = kept.now();
        m.kind = kept.kind().clone();
        m.nailed = kept.nailed().clone();
    }

    private static boolean step(Random dice) {
        List<Model.Step> can = new ArrayList<>(m.stepsNow());
        if (can.isEmpty()) {
            return false;
        }
        Model.Step step = can.get(dice.nextInt(can.size()));
        int row = step.number() / m.doors;
        int d = step.number() % m.doors;
        if (row == 0) {
            Checks.granted(x, at("open " + d), x.open(d), step.then().lead[d]);
        } else if (row == 1) {
            Checks.granted(x, at("shut " + d), x.shut(d));
        } else {
            Checks.granted(x, at("go " + d), x.go(row - 2, d), step.then().at[row - 2]);
        }
        m.now = step.then();
        return true;
    }
}
