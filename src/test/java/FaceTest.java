import java.lang.reflect.Constructor;
import java.lang.reflect.Field;
import java.lang.reflect.Method;
import java.lang.reflect.Modifier;
import java.nio.file.Files;
import java.nio.file.Path;
import java.util.ArrayList;
import java.util.HashSet;
import java.util.List;
import java.util.Set;
import java.util.TreeSet;
import java.util.regex.Matcher;
import java.util.regex.Pattern;

/** The class's face is the document's and no more, and its file keeps to what of LANGUAGE.md can be read off. */
public final class FaceTest {
    private static final String[] FACE = {
        "int feed(int,int,int,int,int)", "int lane(int)", "int fault()", "int where()", "int door(int,int)",
        "int person(int,int)", "int last()", "int can(int)", "int choices()", "int seen()", "int shutIn()",
        "int errand(int)", "int errandAt(int,int)", "int shuttings(int)", "int wayTo(int,int)", "int comes(int)",
        "int reach()", "int placings()", "int deepest()", "int stuckOnes()", "int rows(int)", "int lastBy(int)",
        "int firstBy(int,int)", "int fewestSeen()", "int nails(int,int)", "int gets(int,int,int)",
        "int opensWith(int,int,int)", "int slams(int,boolean,boolean,boolean)", "int rests(int)", "int rest(int)",
        "long odds(int,int,boolean)", "long shutOdds(int,int,boolean)", "long mean(int,boolean)",
        "int drafts(int,int)", "int stillAt(int,int)", "int open(int)", "boolean shut(int)", "int go(int,int)",
        "boolean nail(int)", "int spring(int)", "boolean undo()", "int image()", "boolean back(int)", "int led(int)",
        "int size(int)", "int trouble()"};

    public static void main(String[] args) throws Exception {
        face();
        nested();
        source(Files.readString(Path.of("src/main/java/LastLatch.java")));
        Checks.due("NONE", LastLatch.NONE, -1);
        Checks.finish();
    }

    private static String signature(Method m) {
        List<String> types = new ArrayList<>();
        for (Class<?> type : m.getParameterTypes()) {
            types.add(type.getName());
        }
        return m.getReturnType().getName() + " " + m.getName() + "(" + String.join(",", types) + ")";
    }

    private static void face() {
        Set<String> due = new TreeSet<>(List.of(FACE));
        Set<String> got = new TreeSet<>();
        Set<String> names = new HashSet<>();
        for (Method m : LastLatch.class.getDeclaredMethods()) {
            if (Modifier.isPublic(m.getModifiers())) {
                got.add(signature(m));
                names.add(m.getName());
            } else {
                Checks.due(m + " is private", Modifier.isPrivate(m.getModifiers()), true);
            }
        }
        Checks.due("the face " + got, got.equals(due), true);
        for (Method m : LastLatch.class.getDeclaredMethods()) {
            boolean secret = Modifier.isPrivate(m.getModifiers());
            Checks.due(m + " has a name of its own", secret && names.contains(m.getName()), false);
        }
        for (Class<?> inner : LastLatch.class.getDeclaredClasses()) {
            for (Method m : inner.getDeclaredMethods()) {
                Checks.due(m + " has a name of its own", names.contains(m.getName()), false);
            }
        }
        Constructor<?>[] makers = LastLatch.class.getDeclaredConstructors();
        Checks.due("constructors", makers.length, 1);
        Checks.due("constructor's parameters", makers[0].getParameterCount(), 0);
        Checks.due("it is public", Modifier.isPublic(makers[0].getModifiers()), true);
        Checks.due("it is final", Modifier.isFinal(LastLatch.class.getModifiers()), true);
        for (Field f : LastLatch.class.getDeclaredFields()) {
            boolean none = f.getName().equals("NONE");
            Checks.due(f + " is private", Modifier.isPrivate(f.getModifiers()), !none);
        }
    }

    private static void nested() {
        Class<?>[] inside = LastLatch.class.getDeclaredClasses();
        Checks.due("classes inside", inside.length <= 11, true);
        for (Class<?> inner : inside) {
            Checks.due(inner + " is static", Modifier.isStatic(inner.getModifiers()), true);
            Checks.due(inner + " is not public", Modifier.isPublic(inner.getModifiers()), false);
            checkFields(inner);
            checkParameters(inner);
        }
        checkFields(LastLatch.class);
        checkParameters(LastLatch.class);
    }

    private static void checkFields(Class<?> type) {
        int own = 0;
        for (Field f : type.getDeclaredFields()) {
            boolean fixed = Modifier.isStatic(f.getModifiers());
            own += fixed ? 0 : 1;
            Checks.due(f + " is final if static", fixed && !Modifier.isFinal(f.getModifiers()), false);
        }
        Checks.due("fields of " + type, own <= 20, true);
    }

    private static void checkParameters(Class<?> type) {
        for (Method m : type.getDeclaredMethods()) {
            Checks.due("parameters of " + m, m.getParameterCount() <= 7, true);
        }
    }

    private static void source(String text) {
        for (String word : new String[] {"->", "::", "synchronized", "finally", "assert ", "lambda", "catch", "try {",
            "package ", "System.out", "System.nano", "System.current", "Random", "Thread", "Exact(", "hashCode",
            "toString", "null", "double", "float", "static {"}) {
            Checks.due("the file has " + word, text.contains(word), false);
        }
        Matcher imports = Pattern.compile("(?m)^import (.*);$").matcher(text);
        while (imports.find()) {
            String name = imports.group(1);
            Checks.due("import of " + name,
                name.equals("java.util.Arrays") || name.equals("java.util.NoSuchElementException"), true);
        }
        for (int i = 0; i < text.length(); i++) {
            Checks.due("byte " + i, text.charAt(i) < 128, true);
        }
        methodsAreShort(text.split("\n"));
    }

    /** A method begins with a line that ends in ") {" behind four or eight blanks, and ends with its brace. */
    private static void methodsAreShort(String[] lines) {
        Pattern head = Pattern.compile("^( {4}| {8})\\w.*\\)( throws \\w+)? \\{$");
        int methods = 0;
        for (int i = 0; i < lines.length; i++) {
            Matcher m = head.matcher(lines[i]);
            if (!m.matches()) {
                continue;
            }
            int end = i;
            while (end < lines.length && !lines[end].equals(m.group(1) + "}")) {
                end++;
            }
            methods++;
            Checks.due("lines of " + lines[i].trim(), end - i <= 60, true);
        }
        Checks.due("methods found", methods > 100, true);
    }
}
