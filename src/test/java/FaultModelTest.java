import java.util.ArrayList;
import java.util.HashMap;
import java.util.HashSet;
import java.util.List;
import java.util.Map;
import java.util.Random;
import java.util.Set;

/**
 * Promises 3 to 5 against a reader of another make, on texts spoilt by dice: it cuts the text into TOKENS,
 * matches whole LINES against patterns, gathers every FAULT with its place, and takes the least.
 */
public final class FaultModelTest {
    private static final String[] PATTERNS = {
        "lane drafts #", "door N K", "locked D", "last D", "ajar D D", "person N", "inside P D", "key P",
        "home P D", "wants P L", "seen P L"};
    private static final Set<String> RESERVED = Set.of(
        "lane", "door", "locked", "last", "ajar", "person", "inside", "key", "home", "wants", "seen");
    private static final Set<String> KINDS = Set.of("plain", "spring", "heavy", "stuck");
    private static final String[] SPARE = {
        "lane", "door", "locked", "last", "ajar", "person", "inside", "key", "home", "wants", "seen", "drafts",
        "plain", "spring", "heavy", "stuck", "a", "ab", "gate", "p", "q", "z", "0", "100", "101", "7", "1234",
        "abcdefgh", "abcdefghi", ";", ";", "#", "A", "a1", "1a", "door b plain", "person q", ";last a",
        ";ajar a a", ";ajar ab a", ";locked a", ";inside p a", ";key p", ";home p a", ";wants p lane",
        ";seen p lane", ";lane", ";person r", ";door c stuck"};

    private record Token(int place, String text, char sort) {
    }

    private static int bestPlace;
    private static int bestFault;

    public static void main(String[] args) {
        Random dice = new Random(77);
        int[] met = new int[8];
        for (int turn = 0; turn < 30000; turn++) {
            String text = spoil(Model.random(dice, 4).text, dice);
            if (text.length() > 800) {
                continue;
            }
            judge(text);
            LastLatch x = new LastLatch();
            int answer = Checks.tell(x, text);
            met[bestFault]++;
            Checks.due("fault of " + text, x.fault(), bestFault);
            Checks.due("where of " + text, x.where(), bestFault == 0 ? -1 : bestPlace);
            Checks.due("refused: " + text, answer < 0, bestFault != 0);
            Checks.due("trouble of " + text, x.trouble(), bestFault == 0 ? 0 : 4);
        }
        for (int fault = 0; fault < met.length; fault++) {
            Checks.due("texts with fault " + fault, met[fault] > 20, true);
        }
        Checks.finish();
    }

    private static String spoil(String text, Random dice) {
        String all = text;
        int times = dice.nextInt(3);
        for (int i = 0; i < times; i++) {
            String[] parts = all.split(" ");
            int at = dice.nextInt(parts.length);
            switch (dice.nextInt(7)) {
                case 0 -> parts[at] = SPARE[dice.nextInt(SPARE.length)];
                case 1 -> parts[at] = parts[at] + " " + SPARE[dice.nextInt(SPARE.length)];
                case 2 -> parts[at] = "";
                case 5 -> parts[Math.min(2, parts.length - 1)] = 90 + dice.nextInt(30) + ";door q plain";
                case 3 -> parts[parts.length - 1] += SPARE[dice.nextInt(SPARE.length)];
                case 4 -> parts[parts.length - 1] += ";" + String.join(" ", SPARE[dice.nextInt(SPARE.length)],
                    SPARE[dice.nextInt(SPARE.length)], SPARE[dice.nextInt(SPARE.length)]);
                default -> parts[at] = parts[at] + (char) dice.nextInt(256);
            }
            all = String.join(" ", parts);
            if (dice.nextInt(6) == 0) {
                all = all.substring(0, dice.nextInt(all.length() + 1));
            }
        }
        return all;
    }

    private static void note(int place, int fault) {
        if (place < bestPlace || place == bestPlace && fault < bestFault) {
            bestPlace = place;
            bestFault = fault;
        }
    }

    private static void judge(String text) {
        bestPlace = Integer.MAX_VALUE;
        bestFault = 0;
        List<List<Token>> lines = cut(text);
        Map<String, Character> sortOf = new HashMap<>();
        Map<String, Integer> counts = new HashMap<>();
        Set<String> said = new HashSet<>();
        boolean[] lane = new boolean[1];
        for (int i = 0; i < lines.size(); i++) {
            List<Token> line = lines.get(i);
            // each line is judged even behind a FAULT: the least place counts
            judgeLine(line, sortOf, counts, said, lane);
        }
        if (counts.getOrDefault("door", 0) == 0) {
            note(text.length(), 6);
        }
    }

    /** Lines of TOKENS; a last TOKEN of sort 'e' or ';' tells where a line ends. */
    private static List<List<Token>> cut(String text) {
        List<List<Token>> lines = new ArrayList<>();
        List<Token> line = new ArrayList<>();
        int i = 0;
        while (i < text.length()) {
            char c = text.charAt(i);
            int j = i + 1;
            if (c == ' ') {
                i++;
                continue;
            }
            char sort = '!';
            if (c >= 'a' && c <= 'z') {
                while (j < text.length() && text.charAt(j) >= 'a' && text.charAt(j) <= 'z') {
                    j++;
                }
                sort = j - i <= 8 ? 'w' : '!';
            } else if (c >= '0' && c <= '9') {
                while (j < text.length() && text.charAt(j) >= '0' && text.charAt(j) <= '9') {
                    j++;
                }
                sort = j - i <= 3 ? '#' : '!';
            } else if (c == ';') {
                sort = ';';
            }
            line.add(new Token(i, text.substring(i, j), sort));
            if (sort == ';') {
                lines.add(line);
                line = new ArrayList<>();
            }
            i = j;
        }
        line.add(new Token(text.length(), "", 'e'));
        lines.add(line);
        return lines;
    }

    private static void judgeLine(List<Token> line, Map<String, Character> sortOf, Map<String, Integer> counts,
            Set<String> said, boolean[] lane) {
        Token head = line.get(0);
        String[] pattern = null;
        for (String one : PATTERNS) {
            pattern = one.split(" ")[0].equals(head.text) ? one.split(" ") : pattern;
        }
        if (pattern == null) {
            note(head.place, 1);
            return;
        }
        if (head.text.equals("lane")) {
            if (lane[0]) {
                note(head.place, 3);
            }
            lane[0] = true;
        } else if (!lane[0]) {
            note(head.place, 6);
        }
        int had = counts.merge(head.text, 1, Integer::sum) - 1;
        if (head.text.equals("door") && had >= 4 || head.text.equals("person") && had >= 2) {
            note(head.place, 5);
        }
        if (head.text.equals("last") && had >= 1) {
            note(head.place, 3);
        }
        for (int i = 1; i < pattern.length; i++) {
            if (!judgeToken(line, i, pattern, sortOf, said)) {
                return;
            }
        }
        Token end = line.get(pattern.length);
        if (end.sort != ';' && end.sort != 'e') {
            note(end.place, 1);
        }
    }

    private static boolean judgeToken(List<Token> line, int i, String[] pattern, Map<String, Character> sortOf,
            Set<String> said) {
        Token t = line.get(i);
        String head = pattern[0];
        boolean name = t.sort == 'w' && !RESERVED.contains(t.text);
        boolean form = switch (pattern[i].charAt(0)) {
            case '#' -> t.sort == '#';
            case 'N', 'D', 'P' -> name;
            case 'K' -> KINDS.contains(t.text);
            case 'L' -> name || t.text.equals("lane");
            default -> t.text.equals(pattern[i]);
        };
        if (!form) {
            note(t.place, 1);
            return false;
        }
        switch (pattern[i].charAt(0)) {
            case '#' -> {
                if (Integer.parseInt(t.text) > 100) {
                    note(t.place, 4);
                }
            }
            case 'N' -> {
                if (sortOf.containsKey(t.text)) {
                    note(t.place, 3);
                }
                sortOf.putIfAbsent(t.text, head.equals("door") ? 'D' : 'P');
            }
            case 'D', 'P', 'L' -> judgeName(t, i, pattern, sortOf, said);
            default -> {
            }
        }
        return true;
    }

    private static void judgeName(Token t, int i, String[] pattern, Map<String, Character> sortOf, Set<String> said) {
        String head = pattern[0];
        char want = pattern[i].equals("L") ? 'D' : pattern[i].charAt(0);
        if (t.text.equals("lane")) {
            return;
        }
        if (sortOf.getOrDefault(t.text, '?') != want) {
            note(t.place, 2);
        }
        if (i == 1 && !head.equals("last") && !said.add(head + " " + t.text)) {
            note(t.place, 3);
        }
        if (head.equals("last")) {
            said.add("last " + t.text);
        }
        if (i == 1 && (head.equals("last") || head.equals("ajar"))
                && said.contains("last " + t.text) && said.contains("ajar " + t.text)) {
            note(t.place, 7);
        }
    }
}
