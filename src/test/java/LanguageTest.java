import java.lang.reflect.Field;
import java.lang.reflect.Method;
import java.lang.reflect.Modifier;
import java.nio.file.Files;
import java.nio.file.Path;
import java.util.ArrayList;
import java.util.Arrays;
import java.util.List;
import java.util.Set;
import java.util.TreeSet;
import java.util.regex.Matcher;
import java.util.regex.Pattern;

/** What of LANGUAGE.md, and of the document's public face, can be seen from the class itself. */
public final class LanguageTest {
    private static final Path PROGRAM = Path.of("src/main/java/AgedLog.java");

    public static void main(String[] args) throws Exception {
        faceIsThatOfTheDocument();
        innerClassesAreStatic();
        List<String> lines = Files.readAllLines(PROGRAM);
        wordsThatAreRuledOut(withoutComments(String.join("\n", lines)));
        methodsAreShort(lines);
        callsMakeNoObjects(lines);
        Check.end();
    }

    private static void faceIsThatOfTheDocument() {
        Set<String> face = new TreeSet<>(Arrays.asList(
            "feed(long, int)", "put(int)", "remove(int)", "size(int)", "value(int, int)", "sync()",
            "checkpoint()", "clean(int)", "tick(int)", "cut(int, int)", "start()", "disk(int, int)",
            "poke(int, int, int)", "segment(int, int)", "where(int, int)", "told(int)"));
        Set<String> seen = new TreeSet<>();
        for (Method method : AgedLog.class.getDeclaredMethods()) {
            if (Modifier.isPublic(method.getModifiers())) {
                List<String> types = new ArrayList<>();
                for (Class<?> type : method.getParameterTypes()) {
                    types.add(type.getName());
                }
                seen.add(method.getName() + "(" + String.join(", ", types) + ")");
                Check.due(method + " answers int", method.getReturnType() == int.class ? 1 : 0, 1);
            } else {
                isTrue(method + " is private", Modifier.isPrivate(method.getModifiers()));
            }
        }
        isTrue("the face " + seen, seen.equals(face));
        for (Field field : AgedLog.class.getDeclaredFields()) {
            isTrue(field + " is private", Modifier.isPrivate(field.getModifiers()));
        }
        isTrue("the class is public and final", AgedLog.class.getModifiers() == (Modifier.PUBLIC | Modifier.FINAL));
        Check.due("public constructors", AgedLog.class.getConstructors().length, 1);
        Check.due("constructors", AgedLog.class.getDeclaredConstructors().length, 1);
    }

    private static void innerClassesAreStatic() {
        Set<String> face = new TreeSet<>();
        for (Method method : AgedLog.class.getMethods()) {
            if (method.getDeclaringClass() == AgedLog.class) {
                face.add(method.getName());
            }
        }
        Class<?>[] inner = AgedLog.class.getDeclaredClasses();
        isTrue("at most twelve classes", inner.length < 12);
        for (Class<?> type : inner) {
            isTrue(type + " is static", Modifier.isStatic(type.getModifiers()));
            isTrue(type + " is not public", (type.getModifiers() & (Modifier.PUBLIC | Modifier.PROTECTED)) == 0);
            for (Method method : type.getDeclaredMethods()) {
                isTrue(method + " bears no public name", !face.contains(method.getName()));
                isTrue(method + " takes at most seven", method.getParameterCount() <= 7);
            }
            fieldsAreFewAndConstantsConstant(type);
        }
        fieldsAreFewAndConstantsConstant(AgedLog.class);
    }

    private static void fieldsAreFewAndConstantsConstant(Class<?> type) {
        int fields = 0;
        for (Field field : type.getDeclaredFields()) {
            if (Modifier.isStatic(field.getModifiers())) {
                isTrue(field + " is final", Modifier.isFinal(field.getModifiers()));
                isTrue(field + " is a number", field.getType() == int.class || field.getType() == long.class);
            } else {
                fields++;
            }
        }
        isTrue(type + " has at most twenty fields", fields <= 20);
    }

    /** All rows are made with the object, so that no run of calls can fill the room. */
    private static void callsMakeNoObjects(List<String> lines) {
        for (String line : lines) {
            if (withoutComments(line).matches(".*\\bnew\\b.*")) {
                boolean inField = line.matches(" {8}private final \\w+\\[\\] \\w+ = new \\w+\\[.*\\];");
                boolean inConstructor = line.matches(" {8}\\w+ = new \\w+(\\(.*\\)|\\[.*\\]);");
                isTrue("made with the object:" + line, inField || inConstructor);
            }
        }
    }

    private static String withoutComments(String text) {
        return text.replaceAll("(?s)/\\*.*?\\*/", " ").replaceAll("//[^\n]*", " ");
    }

    private static void wordsThatAreRuledOut(String text) {
        String[] words = {"throw", "throws", "try", "catch", "synchronized", "assert", "package", "var",
            "protected", "Object", "Random", "Thread", "System.out", "System.err", "System.nanoTime",
            "System.currentTimeMillis", "Exception", "Error", "yield", "native", "volatile", "goto",
            "String", "equals", "hashCode", "toString", "instanceof", "double", "float", "List"};
        for (String word : words) {
            Matcher matcher = Pattern.compile("\\b" + Pattern.quote(word) + "\\b").matcher(text);
            isTrue("no " + word, !matcher.find());
        }
        isTrue("no lambda", !text.contains("->"));
        isTrue("no method reference", !text.contains("::"));
        isTrue("no static block", !Pattern.compile("static\\s*\\{").matcher(text).find());
        Matcher imports = Pattern.compile("import\\s+([^;]+);").matcher(text);
        while (imports.find()) {
            isTrue("import " + imports.group(1), imports.group(1).equals("java.util.Arrays"));
        }
        Matcher calls = Pattern.compile("\\b(Arrays|Math|Integer|System)\\.(\\w+)").matcher(text);
        Set<String> allowed = Set.of("Arrays.fill", "Math.max", "Math.min", "Integer.rotateLeft", "System.arraycopy");
        while (calls.find()) {
            isTrue("the library: " + calls.group(), allowed.contains(calls.group()));
        }
        Matcher fills = Pattern.compile("Arrays\\.fill\\((\\w+), ([^;]*)\\);").matcher(text);
        while (fills.find()) {
            isTrue("fill over numbers: " + fills.group(), !fills.group(2).matches("true|false"));
        }
    }

    /** A method begins and ends at lines with the same indent, 4 or 8. */
    private static void methodsAreShort(List<String> lines) {
        Pattern begin = Pattern.compile("^(    |        )\\S.*\\) \\{$");
        for (int i = 0; i < lines.size(); i++) {
            Matcher matcher = begin.matcher(lines.get(i));
            if (matcher.matches()) {
                int end = i;
                while (end < lines.size() && !lines.get(end).equals(matcher.group(1) + "}")) {
                    end++;
                }
                isTrue("the method at line " + (i + 1) + " is short", end - i + 1 <= 60);
            }
        }
    }

    private static void isTrue(String what, boolean is) {
        Check.isTrue(what, is);
    }
}
