import java.io.File;
import java.io.IOException;
import java.net.URL;
import java.net.URLClassLoader;
import java.nio.charset.StandardCharsets;
import java.nio.file.Files;
import java.nio.file.Path;
import java.util.ArrayList;
import java.util.LinkedHashMap;
import java.util.List;
import java.util.Map;
import java.util.Set;
import java.util.TreeSet;
import java.util.regex.Matcher;
import java.util.regex.Pattern;
import java.util.stream.Stream;

/** What README.md says is tried: its examples compiled and run, its tables beside the document, its list of tests. */
public final class ReadmeTest {
    private static final Path README = Path.of("README.md");
    private static final Path DOCUMENT = Path.of("..", "shared", "DOC.md");
    private static final Path TESTS = Path.of("src", "test", "java");
    private static final Pattern ANSWER = Pattern.compile("x\\.(\\w+)\\(.*\\);\\s*// (BAD|NO|FULL|NONE|-?\\d+)(: .*)?");
    private static final Pattern CALL = Pattern.compile("`(\\w+)\\((.*)\\)`");
    private static final Pattern FACE = Pattern.compile("    public (?:int|long) (\\w+)\\((.*)\\);");
    private static final Pattern PROMISE = Pattern.compile("`(?:int|long) (\\w+)\\(.*\\)`: (.*)");
    private static final Pattern REFUSAL = Pattern.compile("\\b(BAD|NO|FULL|NONE)\\b");
    private static final Pattern TEST = Pattern.compile("`(\\w*(?:Test|Edges))`");

    private static int wrong = 0;

    private static void must(boolean right, String what) {
        if (!right) {
            wrong++;
            System.out.println("README.md: " + what);
        }
    }

    public static void main(String[] args) throws Exception {
        List<String> lines = Files.readAllLines(README, StandardCharsets.UTF_8);
        int answers = examples(lines);
        shown(lines);
        refusalNumbers(lines);
        if (Files.exists(DOCUMENT)) {
            besideTheDocument(lines, Files.readAllLines(DOCUMENT, StandardCharsets.UTF_8));
        } else {
            System.out.println("no document at " + DOCUMENT + ": the tables are not looked at");
        }
        tests(String.join("\n", lines));
        System.out.println(answers + " answers in README.md tried, " + wrong + " wrong");
        if (wrong != 0) {
            System.exit(1);
        }
    }

    /** Compiles and runs all examples, each by itself: how many answers they tell. */
    private static int examples(List<String> lines) throws Exception {
        Path folder = Files.createTempDirectory("readme");
        try {
            Path source = folder.resolve("ReadmeRuns.java");
            Files.writeString(source, program(lines));
            int refused = new ProcessBuilder("javac", "-encoding", "UTF-8", "-cp", System.getProperty("java.class.path"),
                    "-d", folder.toString(), source.toString()).inheritIO().start().waitFor();
            must(refused == 0, "the examples do not compile");
            return refused == 0 ? run(folder) : 0;
        } finally {
            remove(folder);
        }
    }

    private static int run(Path folder) throws Exception {
        try (URLClassLoader loader = new URLClassLoader(new URL[] {folder.toUri().toURL()}, ReadmeTest.class.getClassLoader())) {
            Class<?> runs = loader.loadClass("ReadmeRuns");
            int[] counts = (int[]) runs.getMethod("run").invoke(null);
            wrong += counts[1];
            return counts[0];
        }
    }

    private static void remove(Path folder) throws IOException {
        try (Stream<Path> files = Files.list(folder)) {
            files.map(Path::toFile).forEach(File::delete);
        }
        Files.delete(folder);
    }

    private static String program(List<String> lines) {
        StringBuilder code = new StringBuilder("public final class ReadmeRuns {\n"
                + "static int answers = 0;\nstatic int wrong = 0;\n"
                + "static void due(String call, long got, long want) {\nanswers++;\nif (got != want) {\nwrong++;\n"
                + "System.out.println(\"README.md: \" + call + \" answered \" + got);\n}\n}\n"
                + "public static int[] run() {\n");
        boolean inside = false;
        for (String line : lines) {
            Matcher answer = ANSWER.matcher(line);
            if (line.startsWith("```")) {
                must(inside || line.equals("```java"), "an example that is not Java: " + line);
                inside = !inside;
                code.append(inside ? "{\n" : "}\n");
            } else if (inside && answer.matches()) {
                String call = line.substring(0, line.indexOf(";  "));
                String want = answer.group(2).matches("[A-Z]+") ? "LeftAtFive." + answer.group(2) : answer.group(2);
                String told = line.replace("\\", "\\\\").replace("\"", "\\\"");
                code.append("due(\"" + told + "\", " + call + ", " + want + ");\n");
            } else if (inside) {
                must(!line.contains("//"), "an answer that is not looked at: " + line);
                code.append(line).append('\n');
            }
        }
        return code.append("return new int[] {answers, wrong};\n}\n}\n").toString();
    }

    /** Each call of the tables is shown with an answer, and with each refusal that stands in its row. */
    private static void shown(List<String> lines) {
        Map<String, Set<String>> answered = new LinkedHashMap<>();
        for (String line : lines) {
            Matcher answer = ANSWER.matcher(line);
            if (answer.matches()) {
                String word = answer.group(2).matches("[A-Z]+") ? answer.group(2) : "a number";
                answered.computeIfAbsent(answer.group(1), none -> new TreeSet<>()).add(word);
            }
        }
        for (String[] row : rows(lines)) {
            Set<String> want = words(row[2]);
            want.add("a number");
            Set<String> got = answered.getOrDefault(row[0], new TreeSet<>());
            must(got.containsAll(want), row[0] + " is shown with " + got + ", its row tells " + want);
        }
    }

    private static void refusalNumbers(List<String> lines) {
        String[] want = {"| `BAD` | " + LeftAtFive.BAD + " |", "| `NO` | " + LeftAtFive.NO + " |",
            "| `NONE` | " + LeftAtFive.NONE + " |", "| `FULL` | " + LeftAtFive.FULL + " |"};
        int place = 0;
        for (String line : lines) {
            if (place < want.length && line.startsWith(want[place])) {
                place++;
            }
        }
        must(place == want.length, "the refusals' numbers, in their order");
    }

    /** Name, numbers, refusals of each call in the tables. */
    private static List<String[]> rows(List<String> lines) {
        List<String[]> rows = new ArrayList<>();
        for (String line : lines) {
            String[] cells = line.split(" ?\\| ?", -1);
            Matcher call = CALL.matcher(cells.length == 5 ? cells[1] : "");
            if (call.matches()) {
                rows.add(new String[] {call.group(1), call.group(2), cells[3]});
            }
        }
        return rows;
    }

    private static Set<String> words(String text) {
        Set<String> all = new TreeSet<>();
        for (Matcher word = REFUSAL.matcher(text); word.find(); ) {
            all.add(word.group());
        }
        return all;
    }

    private static void besideTheDocument(List<String> lines, List<String> document) {
        List<String> face = new ArrayList<>();
        Map<String, Set<String>> refusals = new LinkedHashMap<>();
        for (String line : document) {
            Matcher call = FACE.matcher(line);
            if (call.matches()) {
                face.add(call.group(1) + "(" + call.group(2).replaceAll("\\w+ (\\w+)", "$1") + ")");
            }
            Matcher promise = PROMISE.matcher(line);
            if (promise.matches()) {
                refusals.put(promise.group(1), words(promise.group(2)));
            }
        }
        List<String> told = new ArrayList<>();
        for (String[] row : rows(lines)) {
            told.add(row[0] + "(" + row[1] + ")");
            must(words(row[2]).equals(refusals.get(row[0])), row[0] + " is refused by " + refusals.get(row[0]));
        }
        must(told.equals(face), "its tables have " + told + ", the document's face " + face);
    }

    private static void tests(String text) throws IOException {
        Set<String> named = new TreeSet<>();
        for (Matcher test = TEST.matcher(text); test.find(); ) {
            named.add(test.group(1));
        }
        Set<String> there = new TreeSet<>();
        try (Stream<Path> files = Files.list(TESTS)) {
            files.map(file -> file.getFileName().toString()).filter(name -> name.endsWith(".java"))
                    .forEach(name -> there.add(name.substring(0, name.length() - ".java".length())));
        }
        must(named.equals(there), "it names " + named + ", there are " + there);
        must(text.contains("\n    bash .ci/run\n"), "it does not say how to run the tests");
        must(Files.isExecutable(Path.of(".ci", "run")), ".ci/run can not be run");
    }
}
