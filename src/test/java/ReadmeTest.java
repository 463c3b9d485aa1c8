import java.io.IOException;
import java.lang.reflect.Method;
import java.lang.reflect.Modifier;
import java.net.URL;
import java.net.URLClassLoader;
import java.nio.file.Files;
import java.nio.file.Path;
import java.util.ArrayList;
import java.util.Arrays;
import java.util.Comparator;
import java.util.LinkedHashMap;
import java.util.List;
import java.util.Map;
import java.util.Set;
import java.util.TreeSet;
import java.util.regex.Matcher;
import java.util.regex.Pattern;
import java.util.stream.Collectors;
import java.util.stream.Stream;
import javax.tools.ToolProvider;

/** What README.md says is tried: its examples, its commands, and whether it leaves something out. */
public final class ReadmeTest {
    private static final Path README = Path.of("README.md");
    private static final Path DOCUMENT = Path.of("../shared/DOC.md");
    private static final Pattern CALL = Pattern.compile("(log\\.(\\w+)\\(.*\\));\\s+// (-?\\d+)(: .*)?");

    /** What stands between the marks of a block, and the word behind the first of them. */
    private static final class Block {
        final String language;
        final List<String> lines = new ArrayList<>();

        Block(String language) {
            this.language = language;
        }
    }

    private final List<Block> blocks = new ArrayList<>();
    /** The text below each heading, without its blocks. */
    private final Map<String, String> sections = new LinkedHashMap<>();
    /** For each call the answers below 0 that an example shows. */
    private final Map<String, Set<Integer>> refusalsShown = new LinkedHashMap<>();

    public static void main(String[] args) throws Exception {
        ReadmeTest test = new ReadmeTest();
        test.read();
        test.tellsOfEachCall();
        test.examplesAnswerAsItSays();
        test.showsEachRefusal();
        test.usesTheDocumentsWords();
        test.commandsWork();
        test.tablesLeaveNothingOut();
        test.pathsAreThere();
        Check.end();
    }

    private void read() throws IOException {
        String heading = "";
        Block block = null;
        for (String line : Files.readAllLines(README)) {
            if (line.startsWith("```")) {
                if (block == null) {
                    block = new Block(line.substring(3));
                    blocks.add(block);
                } else {
                    block = null;
                }
            } else if (block != null) {
                block.lines.add(line);
            } else if (line.startsWith("#")) {
                heading = line.replaceFirst("#+ ", "");
            } else {
                sections.merge(heading, line + "\n", String::concat);
            }
        }
        Check.isTrue("each block has an end", block == null);
    }

    private static Map<String, Method> face() {
        Map<String, Method> face = new LinkedHashMap<>();
        for (Method method : AgedLog.class.getDeclaredMethods()) {
            if (Modifier.isPublic(method.getModifiers())) {
                face.put(method.getName(), method);
            }
        }
        return face;
    }

    /** The headings of the calls, without the marks around them. */
    private Map<String, String> signatures() {
        Map<String, String> signatures = new LinkedHashMap<>();
        for (String heading : sections.keySet()) {
            Matcher matcher = Pattern.compile("`(int (\\w+)\\(.*\\))`").matcher(heading);
            if (matcher.matches()) {
                signatures.put(matcher.group(2), matcher.group(1));
            }
        }
        return signatures;
    }

    private void tellsOfEachCall() {
        Map<String, String> signatures = signatures();
        Map<String, Method> face = face();
        Check.isTrue("the calls " + signatures.keySet(), signatures.keySet().equals(face.keySet()));
        for (String name : face.keySet()) {
            String types = Arrays.stream(face.get(name).getParameterTypes())
                .map(Class::getName).collect(Collectors.joining(", "));
            String told = signatures.getOrDefault(name, "").replaceAll("(int|long) \\w+(?=[,)])", "$1");
            Check.isTrue("what " + name + " takes", told.equals("int " + name + "(" + types + ")"));
        }
    }

    private void examplesAnswerAsItSays() throws Exception {
        StringBuilder text = new StringBuilder("import java.util.*; public class Examples {\n"
            + "public static List<Object[]> run() {\nList<Object[]> answers = new ArrayList<>();\n");
        int examples = 0;
        for (Block block : blocks) {
            if (block.language.equals("java")) {
                text.append("{\n").append(translated(block)).append("}\n");
                examples++;
            }
        }
        Check.isTrue("one example for each call, and more", examples > face().size());
        for (Object[] of : answersOf(text.append("return answers;\n}\n}\n").toString())) {
            Check.due("README.md: " + of[0], (Integer) of[1], (Integer) of[2]);
        }
    }

    private String translated(Block block) {
        StringBuilder text = new StringBuilder();
        for (String line : block.lines) {
            Matcher call = CALL.matcher(line);
            if (call.matches()) {
                text.append("answers.add(new Object[] {\"").append(call.group(1)).append("\", ")
                    .append(call.group(1)).append(", ").append(call.group(3)).append("});\n");
                int answer = Integer.parseInt(call.group(3));
                if (answer < 0) {
                    refusalsShown.computeIfAbsent(call.group(2), x -> new TreeSet<>()).add(answer);
                }
            } else {
                boolean plain = line.equals("AgedLog log = new AgedLog();") || line.matches("(for|while) .*\\{ .*; \\}");
                Check.isTrue("a call tells its answer: " + line, plain);
                text.append(line).append('\n');
            }
        }
        return text.toString();
    }

    @SuppressWarnings("unchecked")
    private static List<Object[]> answersOf(String text) throws Exception {
        Path folder = Files.createTempDirectory("readme");
        Path source = folder.resolve("Examples.java");
        Files.writeString(source, text);
        int compiled = ToolProvider.getSystemJavaCompiler().run(null, null, null,
            "-cp", System.getProperty("java.class.path"), "-d", folder.toString(), source.toString());
        Check.due("the compiler over the examples", compiled, 0);
        List<Object[]> answers = List.of();
        if (compiled == 0) {
            try (URLClassLoader loader = new URLClassLoader(new URL[] {folder.toUri().toURL()})) {
                answers = (List<Object[]>) loader.loadClass("Examples").getMethod("run").invoke(null);
            }
        }
        Files.deleteIfExists(folder.resolve("Examples.class"));
        Files.delete(source);
        Files.delete(folder);
        return answers;
    }

    /** The refusals that the text of a call names are those that the examples show. */
    private void showsEachRefusal() {
        Map<String, String> signatures = signatures();
        for (String name : signatures.keySet()) {
            Set<Integer> named = new TreeSet<>();
            Matcher matcher = Pattern.compile("(?<![\\w.])-[1-5]\\b").matcher(proseOf(signatures.get(name)));
            while (matcher.find()) {
                named.add(Integer.valueOf(matcher.group()));
            }
            Set<Integer> shown = refusalsShown.getOrDefault(name, Set.of());
            Check.isTrue("refusals of " + name + ": named " + named + ", shown " + shown, named.equals(shown));
        }
    }

    private String proseOf(String signature) {
        return sections.get("`" + signature + "`").replaceAll("\\s+", " ").trim();
    }

    private void usesTheDocumentsWords() throws IOException {
        if (!Files.exists(DOCUMENT)) {
            return;
        }
        Map<String, String> signatures = signatures();
        int promises = 0;
        for (String line : Files.readAllLines(DOCUMENT)) {
            Matcher promise = Pattern.compile("`(int (\\w+)\\(.*?\\))`: (.*)").matcher(line);
            if (promise.matches()) {
                promises++;
                String name = promise.group(2);
                Check.isTrue("how " + name + " is called", promise.group(1).equals(signatures.get(name)));
                Check.isTrue("the words of " + name, promise.group(3).trim().equals(proseOf(promise.group(1))));
            }
        }
        Check.due("promises of calls", promises, signatures.size());
    }

    private void commandsWork() throws Exception {
        int commands = 0;
        for (Block block : blocks) {
            if (block.language.equals("sh")) {
                commands++;
                commandWorks(block.lines);
            } else {
                Check.isTrue("a block of " + block.language, block.language.equals("java"));
            }
        }
        Check.isTrue("commands are named", commands > 0);
    }

    /** The command that runs all tests runs this one too: so it is only looked at. */
    private static void commandWorks(List<String> lines) throws Exception {
        if (lines.equals(List.of(".ci/run"))) {
            Check.isTrue(".ci/run can be run", Files.isExecutable(Path.of(".ci/run")));
            return;
        }
        String text = String.join("\n", lines);
        Check.isTrue("it does not run the tests within the tests", !text.contains(".ci/run"));
        Path folder = Files.createTempDirectory("readme");
        ProcessBuilder shell = new ProcessBuilder("sh", "-e", "-c", text).inheritIO();
        shell.environment().put("TMPDIR", folder.toString());
        Check.due("the command " + text, shell.start().waitFor(), 0);
        try (Stream<Path> made = Files.walk(folder)) {
            for (Path path : made.sorted(Comparator.reverseOrder()).collect(Collectors.toList())) {
                Files.delete(path);
            }
        }
    }

    private Set<String> firstColumnOf(String heading) {
        Set<String> names = new TreeSet<>();
        Matcher row = Pattern.compile("(?m)^\\| `(\\w+)` \\|").matcher(sections.get(heading));
        while (row.find()) {
            names.add(row.group(1));
        }
        return names;
    }

    private void tablesLeaveNothingOut() throws IOException {
        Set<String> tests = new TreeSet<>();
        try (Stream<Path> files = Files.list(Path.of("src/test/java"))) {
            files.forEach(file -> tests.add(file.getFileName().toString().replace(".java", "")));
        }
        Check.isTrue("the tests " + tests, firstColumnOf("How to run its tests").equals(tests));
        Set<String> classes = new TreeSet<>(Set.of("AgedLog"));
        for (Class<?> type : AgedLog.class.getDeclaredClasses()) {
            classes.add(type.getSimpleName());
        }
        Check.isTrue("the classes " + classes, firstColumnOf("How it is built").equals(classes));
    }

    private void pathsAreThere() {
        for (String text : sections.values()) {
            Matcher path = Pattern.compile("`((src|\\.ci)/[^`]*)`").matcher(text);
            while (path.find()) {
                Check.isTrue(path.group(1) + " is there", Files.exists(Path.of(path.group(1))));
            }
        }
    }
}
