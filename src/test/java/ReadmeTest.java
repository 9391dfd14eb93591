import java.lang.reflect.InvocationTargetException;
import java.lang.reflect.Method;
import java.nio.file.Files;
import java.nio.file.Path;
import java.util.ArrayList;
import java.util.List;
import java.util.NoSuchElementException;
import java.util.TreeSet;
import java.util.regex.Matcher;
import java.util.regex.Pattern;
import java.util.stream.Stream;

/** README.md holds: its example answers as its comments say, its text is a lane, its lists leave nothing out. */
public final class ReadmeTest {
    private static final Pattern CALL = Pattern.compile("^x\\.(\\w+)\\((.*)\\); +// ([^: ]+).*$");

    public static void main(String[] args) throws Exception {
        String page = Files.readString(Path.of("README.md"));
        exampleAnswersAsItSays(block(page, "java"));
        textHasEachLine(block(page, "text"));
        eachLineOfTheTableIsRead(page);
        eachTestIsListed(page);
        Checks.finish();
    }

    private static String block(String page, String sort) {
        Matcher m = Pattern.compile("(?s)```" + sort + "\n(.*?)```").matcher(page);
        Checks.due("a block of " + sort, m.find(), true);
        return m.group(1);
    }

    private static void exampleAnswersAsItSays(String code) throws Exception {
        LastLatch x = new LastLatch();
        int calls = 0;
        for (String line : code.split("\n")) {
            Matcher m = CALL.matcher(line);
            boolean isCall = m.matches();
            Checks.due("'" + line + "' is a call with its answer", isCall, line.startsWith("x."));
            if (isCall) {
                calls++;
                String got = answerOf(x, m.group(1), m.group(2));
                String due = m.group(3).equals("NONE") ? "-1" : m.group(3);
                Checks.due("'" + line + "' answered " + got + "; as the page says", got.equals(due), true);
            }
        }
        Checks.due("calls of the example", calls >= 30, true);
    }

    private static String answerOf(LastLatch x, String name, String list) throws Exception {
        try {
            return call(x, name, list).toString();
        } catch (InvocationTargetException e) {
            return e.getCause() instanceof NoSuchElementException ? "throws" : e.getCause().toString();
        }
    }

    private static Object call(LastLatch x, String name, String list) throws Exception {
        for (Method m : LastLatch.class.getMethods()) {
            if (m.getName().equals(name)) {
                Class<?>[] types = m.getParameterTypes();
                String[] words = list.isEmpty() ? new String[0] : list.split(", ");
                Object[] values = new Object[types.length];
                for (int i = 0; i < types.length; i++) {
                    values[i] = types[i] == boolean.class ? (Object) Boolean.valueOf(words[i])
                        : (Object) Integer.decode(words[i]);
                }
                return m.invoke(x, values);
            }
        }
        throw new IllegalArgumentException(name);
    }

    private static void textHasEachLine(String text) {
        LastLatch x = Checks.told(text.replace('\n', ' '));
        int[] sizes = {50, 4, 2, 1, 1, 1, 1, 2, 2, 2};
        for (int what = 0; what < sizes.length; what++) {
            Checks.due("size(" + what + ") of the page's text", x.size(what), sizes[what]);
        }
    }

    /** A line of the table with its words for names put in is read as one line more of its sort. */
    private static void eachLineOfTheTableIsRead(String page) {
        Matcher row = Pattern.compile("(?m)^\\| (`[a-z]+ [A-Za-z ]+`(, `[^`]*`)*) \\|").matcher(page);
        List<String> lines = new ArrayList<>();
        while (row.find()) {
            for (String line : row.group(1).split(", ")) {
                lines.add(line.replace("`", ""));
            }
        }
        Checks.due("lines told in the table", lines.size(), 13);
        for (String line : lines) {
            String body = line.replace("ajar DOOR DOOR", "ajar b a").replace("DOOR", "b").replace("PERSON", "p")
                .replace("NAME KIND", "c heavy").replace("NAME", "q").replace("WHOLE", "7");
            boolean first = line.startsWith("lane");
            String text = (first ? body : "lane drafts 5") + ";door a plain;door b plain;person p"
                + (first ? "" : ";" + body);
            LastLatch x = Checks.told(text);
            Checks.due("fault() of '" + text + "'", x.fault(), 0);
        }
    }

    private static void eachTestIsListed(String page) throws Exception {
        TreeSet<String> there = new TreeSet<>();
        try (Stream<Path> files = Files.list(Path.of("src/test/java"))) {
            files.map(file -> file.getFileName().toString()).filter(name -> name.endsWith(".java"))
                .forEach(name -> there.add(name.substring(0, name.length() - 5)));
        }
        TreeSet<String> listed = new TreeSet<>();
        Matcher row = Pattern.compile("(?m)^\\| (\\w+Test) \\|").matcher(page);
        while (row.find()) {
            listed.add(row.group(1));
        }
        Checks.due("tests listed " + listed + ", there " + there, listed.equals(there), true);
    }
}
