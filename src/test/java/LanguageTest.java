import java.lang.reflect.Field;
import java.lang.reflect.Method;
import java.lang.reflect.Modifier;
import java.nio.file.Files;
import java.nio.file.Path;
import java.util.ArrayList;
import java.util.List;
import java.util.Set;
import java.util.TreeSet;

/** The document's public face, and the rules of LANGUAGE.md that can be seen from the class's text. */
public final class LanguageTest {
    private static final Path PROGRAM = Path.of("src/main/java/AgedLog.java");

    private static final Set<String> FACE = new TreeSet<>(List.of(
        "feed(long, int)", "put(int)", "remove(int)", "size(int)", "value(int, int)", "sync()",
        "checkpoint()", "clean(int)", "tick(int)", "cut(int, int)", "start()", "disk(int, int)",
        "poke(int, int, int)", "segment(int, int)", "where(int, int)", "told(int)"));

    /** Lines within the class, each of which breaks the rule before it. */
    private static final String[][] BREACHES = {
        {"1", "protected int more() { return 1; }", "int more() { return 1; }",
            "public static final int MORE = 1;", "int more;", "public static class More { }",
            "static class More { private int put(int key) { return key; } }", "private int put() { return 1; }"},
        {"2", "private class More { }", "private void more() { class Local { } }",
            "private Runnable more = () -> { };", "private Runnable more = this::sync;"},
        {"3", "private double more;", "private int[][] more;", "private Object more() { return null; }",
            "private void more(Integer of) { }"},
        {"4", "private void more() { System.out.println(); }", "private long more() { return System.nanoTime(); }",
            "private int more() { return Math.addExact(1, 2); }", "private int more() { return (int) Math.random(); }",
            "private int more() { return Integer.parseInt(\"1\"); }",
            "private void more() { java.util.Arrays.sort(new int[ONE]); }",
            "private void more(boolean[] of) { java.util.Arrays.fill(of, true); }"},
        {"5", "private static int more;", "private static final int[] MORE = new int[ONE];", "static { int more = 1; }"},
        {"6", "private void more() { throw null; }", "private void more() { try { put(1); } finally { put(2); } }",
            "private void more() { synchronized (this) { put(1); } }", "private void more() { assert put(1) == 1; }",
            "private int more() throws Exception { return 1; }", "private AgedLog more(AgedLog of) { return (AgedLog) of; }"},
        {"7", "private int more(int of) { return 1 / of; }", "private int more(int of) { return 1 % (of + 1); }",
            "private int more(int of) { int one = 1; one /= of; return one; }",
            "private static class More { private byte[] row; More(int of) { row = new byte[of]; } }"},
        {"9", "private void more() { while (true) { put(1); } }", "private void more() { for (;;) { put(1); } }",
            "private void more() { do { put(1); } while (put(1) == 1); }"},
        {"11", "private void more(int a, int b, int c, int d, int e, int f, int g, int h) { }",
            "private void more() {" + "\n".repeat(60) + "}", fields(21), classes(12), chain(9),
            "private int more(int of) { return of < 1 ? 0 : more(of - 1); }"},
        {"12", "private void more() { int[] row = new int[ONE]; }", "private AgedLog more() { return new AgedLog(); }"},
    };

    /** Lines that break none, though they come near. */
    private static final String[] NEAR = {
        "private int more() { return 1; }", "private static final int MORE = 1;", "private static class More { }",
        "private int[] more;", "private int more() { return Math.max(1, 2); }", "private final int[] more = new int[ONE];",
        "private void more(int[] of) { java.util.Arrays.fill(of, 1); }", "private int more(int of) { return of / ONE; }",
        "private void more() { for (int i = 0; i < ONE; i++) { put(i); } }",
        "private void more(int a, int b, int c, int d, int e, int f, int g) { }",
        "private void more() {" + "\n".repeat(59) + "}", fields(20), classes(11), chain(8)};

    public static void main(String[] args) throws Exception {
        faceIsThatOfTheDocument();
        breaksNoRule();
        breachesAreSeen();
        Check.end();
    }

    private static void faceIsThatOfTheDocument() {
        Set<String> seen = new TreeSet<>();
        for (Method method : AgedLog.class.getDeclaredMethods()) {
            if (Modifier.isPublic(method.getModifiers())) {
                List<String> types = new ArrayList<>();
                for (Class<?> type : method.getParameterTypes()) {
                    types.add(type.getName());
                }
                seen.add(method.getName() + "(" + String.join(", ", types) + ")");
                Check.isTrue(method + " answers int", method.getReturnType() == int.class);
                Check.isTrue(method + " is no static one", !Modifier.isStatic(method.getModifiers()));
            } else {
                Check.isTrue(method + " is private", Modifier.isPrivate(method.getModifiers()));
            }
        }
        Check.isTrue("the face " + seen, seen.equals(FACE));
        for (Field field : AgedLog.class.getDeclaredFields()) {
            Check.isTrue(field + " is private", Modifier.isPrivate(field.getModifiers()));
        }
        Check.isTrue("public and final", AgedLog.class.getModifiers() == (Modifier.PUBLIC | Modifier.FINAL));
        Check.isTrue("of no other class", AgedLog.class.getSuperclass() == Object.class);
        Check.due("interfaces", AgedLog.class.getInterfaces().length, 0);
        Check.due("public constructors", AgedLog.class.getConstructors().length, 1);
        Check.due("constructors", AgedLog.class.getDeclaredConstructors().length, 1);
        Check.due("what it takes", AgedLog.class.getConstructors()[0].getParameterCount(), 0);
    }

    private static void breaksNoRule() throws Exception {
        List<String> breaches = Rules.breachesOf(Files.readString(PROGRAM));
        for (String breach : breaches) {
            System.out.println("rule " + breach);
        }
        Check.due("breaches of the class", breaches.size(), 0);
    }

    private static String classWith(String line) {
        return "public final class AgedLog {\nprivate static final int ONE = 1;\n"
            + "public int put(int key) { return key; }\npublic int sync() { return 1; }\n" + line + "\n}\n";
    }

    private static void breachesAreSeen() throws Exception {
        for (String[] rule : BREACHES) {
            for (int i = 1; i < rule.length; i++) {
                List<String> breaches = Rules.breachesOf(classWith(rule[i]));
                boolean seen = breaches.stream().anyMatch(breach -> breach.startsWith(rule[0] + ":"));
                Check.isTrue("rule " + rule[0] + " is broken by " + rule[i] + ", seen is " + breaches, seen);
            }
        }
        for (String line : NEAR) {
            List<String> breaches = Rules.breachesOf(classWith(line));
            Check.isTrue("no rule is broken by " + line + ", seen is " + breaches, breaches.isEmpty());
        }
    }

    private static String fields(int count) {
        StringBuilder text = new StringBuilder("private static class More {");
        for (int i = 0; i < count; i++) {
            text.append(" int more").append(i).append(';');
        }
        return text.append(" }").toString();
    }

    private static String classes(int count) {
        StringBuilder text = new StringBuilder();
        for (int i = 0; i < count; i++) {
            text.append("private static class More").append(i).append(" { } ");
        }
        return text.toString();
    }

    /** Methods that go so many deep. */
    private static String chain(int depth) {
        StringBuilder text = new StringBuilder();
        for (int i = 1; i < depth; i++) {
            text.append("private int more").append(i).append("() { return more").append(i + 1).append("(); } ");
        }
        return text.append("private int more").append(depth).append("() { return 1; }").toString();
    }
}
