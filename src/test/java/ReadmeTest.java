import java.io.IOException;
import java.lang.reflect.InvocationTargetException;
import java.net.URL;
import java.net.URLClassLoader;
import java.nio.file.Files;
import java.nio.file.Path;
import java.util.ArrayList;
import java.util.Comparator;
import java.util.List;
import java.util.Set;
import java.util.TreeSet;
import java.util.function.BiConsumer;
import java.util.regex.Matcher;
import java.util.regex.Pattern;
import java.util.stream.Collectors;
import java.util.stream.Stream;

/** README.md: each example and each command in it works as it stands, and nothing is left out. */
public final class ReadmeTest {
    private static final Due DUE = new Due("ReadmeTest");
    private static final Path TESTS = Path.of("src/test/java");
    private static final Pattern BLOCK = Pattern.compile("(?ms)^```(\\w+)\n(.*?)^```$");
    private static final Pattern ANSWERED =
            Pattern.compile("^(wall\\.\\w+\\([^;]*\\));\\s*// (-?[0-9]+|BAD|NO|FULL|NONE)(:.*)?$");
    private static final Pattern CALL_ROW = Pattern.compile("(?m)^\\| `(\\w+\\([^)]*\\))` \\| .* \\| ?(.*) ?\\|$");
    private static final Pattern ITEM_ROW = Pattern.compile("(?m)^\\| `([rcm])[^`]*;` \\|");
    private static final String[] ANSWERS = {"BAD", "NO", "NONE", "FULL"};

    public static void main(String[] args) throws Exception {
        String readme = Files.readString(Path.of("README.md"));
        examples(blocks(readme, "java"));
        commands(blocks(readme, "sh"));
        calls(readme, Files.readString(Path.of("../shared/DOC.md")));
        items(readme);
        names(readme);
        DUE.end();
    }

    private static List<String> blocks(String readme, String language) {
        List<String> blocks = new ArrayList<>();
        Matcher block = BLOCK.matcher(readme);
        while (block.find()) {
            if (block.group(1).equals(language)) {
                blocks.add(block.group(2));
            }
        }
        DUE.holds("there are blocks of " + language, !blocks.isEmpty());
        return blocks;
    }

    /** The blocks are one program; where an answer stands behind a call, the call is to answer it. */
    private static void examples(List<String> blocks) throws Exception {
        StringBuilder program = new StringBuilder("public final class Examples {\n"
                + "public static void run(java.util.function.BiConsumer<String, int[]> due) {\n");
        Set<String> asked = new TreeSet<>();
        for (String line : String.join("", blocks).split("\n")) {
            Matcher answered = ANSWERED.matcher(line);
            boolean is = answered.matches();
            DUE.holds("a comment in a block of Java is an answer: " + line, is || !line.contains("//"));
            DUE.holds("an answer stands behind each call at a line's begin: " + line,
                    is || !line.startsWith("wall."));
            program.append(is ? asDue(answered.group(1), answered.group(2)) : line).append('\n');
            if (is) {
                asked.add(answered.group(1).replaceAll("wall\\.(\\w+).*", "$1"));
            }
        }
        run(program.append("}\n}\n").toString());
        asked.add("write");
        DUE.holds("the examples have every call: " + asked, asked.equals(callsOfClass()));
    }

    private static String asDue(String call, String answer) {
        String want = Character.isLetter(answer.charAt(0)) ? "RemorseWall." + answer : answer;
        return "due.accept(\"" + call + "\", new int[] {" + call + ", " + want + "});";
    }

    private static void run(String program) throws Exception {
        Path folder = Files.createTempDirectory("readme");
        try {
            Path source = Files.writeString(folder.resolve("Examples.java"), program);
            if (succeeds("javac", "-cp", System.getProperty("java.class.path"), "-d", folder.toString(),
                    source.toString())) {
                runCompiled(folder);
            }
        } finally {
            clear(folder);
        }
    }

    private static void runCompiled(Path folder) throws Exception {
        BiConsumer<String, int[]> due = (call, answers) -> DUE.due("example " + call, answers[0], answers[1]);
        try (URLClassLoader loader = new URLClassLoader(new URL[] {folder.toUri().toURL()})) {
            loader.loadClass("Examples").getMethod("run", BiConsumer.class).invoke(null, due);
        } catch (InvocationTargetException e) {
            DUE.holds("the examples throw nothing: " + e.getCause(), false);
        }
    }

    private static void clear(Path folder) throws IOException {
        try (Stream<Path> inside = Files.walk(folder)) {
            for (Path path : inside.sorted(Comparator.reverseOrder()).collect(Collectors.toList())) {
                Files.delete(path);
            }
        }
    }

    /** .ci/run is what runs this test: it is looked at only, or it would never end. */
    private static void commands(List<String> blocks) throws Exception {
        boolean hasRun = false;
        for (String block : blocks) {
            if (block.contains(".ci/run")) {
                DUE.holds("the command for all tests", block.equals("bash .ci/run\n"));
                DUE.holds(".ci/run is there and can be run", Files.isExecutable(Path.of(".ci/run")));
                hasRun = true;
            } else {
                succeeds("bash", "-e", "-c", block + "rm -r \"$out\"\n");
            }
        }
        DUE.holds("all tests have a command", hasRun);
    }

    private static boolean succeeds(String... command) throws Exception {
        Process process = new ProcessBuilder(command).redirectErrorStream(true).start();
        String said = new String(process.getInputStream().readAllBytes());
        int code = process.waitFor();
        DUE.due(String.join(" ", command) + " said " + said + "and its exit code", code, 0);
        return code == 0;
    }

    /** The table of calls has those of the document, in its order, with the answers below 0 they can have. */
    private static void calls(String readme, String doc) {
        Matcher row = CALL_ROW.matcher(readme);
        Matcher promise = Pattern.compile("(?m)^`int (\\w+\\([^)]*\\))`: (.*)$").matcher(doc);
        int rows = 0;
        while (promise.find()) {
            String call = promise.group(1).replace("int ", "");
            boolean found = row.find();
            DUE.holds("the row of " + call, found && row.group(1).equals(call));
            if (found) {
                DUE.holds("what " + call + " answers below 0: " + row.group(2),
                        row.group(2).trim().equals(below(promise.group(2))));
                rows++;
            }
        }
        DUE.due("rows of the table of calls", rows, callsOfClass().size());
        DUE.holds("no row beyond", !row.find());
    }

    private static String below(String promise) {
        List<String> answers = new ArrayList<>();
        for (String answer : ANSWERS) {
            if (Pattern.compile("\\b" + answer + "\\b").matcher(promise).find()) {
                answers.add(answer);
            }
        }
        return String.join(", ", answers);
    }

    private static Set<String> callsOfClass() {
        Set<String> names = new TreeSet<>();
        for (java.lang.reflect.Method m : RemorseWall.class.getDeclaredMethods()) {
            if (java.lang.reflect.Modifier.isPublic(m.getModifiers())) {
                names.add(m.getName());
            }
        }
        return names;
    }

    private static void items(String readme) {
        Matcher row = ITEM_ROW.matcher(readme);
        StringBuilder letters = new StringBuilder();
        while (row.find()) {
            letters.append(row.group(1));
        }
        DUE.holds("the table of items: " + letters, letters.toString().equals("rcm"));
    }

    /** Each test is named, and each path and each test that is named is there. */
    private static void names(String readme) throws IOException {
        try (Stream<Path> files = Files.list(TESTS)) {
            for (Path file : files.collect(Collectors.toList())) {
                String name = file.getFileName().toString().replace(".java", "");
                boolean own = name.equals("Due");
                DUE.holds(name + " is named", own || readme.contains("`" + name + "`"));
            }
        }
        Matcher code = Pattern.compile("`([^`\n]+)`").matcher(readme.replaceAll("(?ms)^```.*?^```$", ""));
        while (code.find()) {
            String name = code.group(1);
            if (name.endsWith("Test")) {
                DUE.holds(name + " is there", Files.exists(TESTS.resolve(name + ".java")));
            } else if (name.contains("/") && !name.contains("*")) {
                DUE.holds(name + " is there", Files.exists(Path.of(name)));
            }
        }
    }
}
