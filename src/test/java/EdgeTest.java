import java.io.IOException;
import java.nio.charset.StandardCharsets;
import java.nio.file.Files;
import java.nio.file.Path;
import java.util.ArrayList;
import java.util.LinkedHashMap;
import java.util.List;
import java.util.Map;
import java.util.regex.Matcher;
import java.util.regex.Pattern;

/**
 * Each sentence of the document that names a bound has a test of its own, named by the document's part and the
 * sentence itself: those of Terms 1 and 2 stand in TermEdges, of Terms 3 and 4 in AheadEdges, of the promises in
 * PromiseEdges. Then the names are looked at: each must stand in the document, and no bound there without a test.
 */
public final class EdgeTest {
    private static final Path DOCUMENT = Path.of("..", "shared", "DOC.md");
    private static final Pattern PART = Pattern.compile("^(?:## (.*)|======== (\\d+) .*)$");
    private static final Pattern BOUND = Pattern.compile("\\d+ to \\d+|\\d+ at most|at the most|at least|at once"
            + "|the last \\d+|\\bnone\\b|beyond|behind five|not so many|told ahead|\\b(?:BAD|NO|NONE|FULL)\\b");

    public static void main(String[] args) throws IOException {
        TermEdges.all();
        AheadEdges.all();
        PromiseEdges.all();
        int names = 0;
        if (Files.exists(DOCUMENT)) {
            names = wrongNames(parts(Files.readAllLines(DOCUMENT, StandardCharsets.UTF_8)));
        } else {
            System.out.println("no document at " + DOCUMENT + ": the tests' names are not looked at");
        }
        System.out.println(Edges.tests + " tests, " + Edges.answers + " answers, " + Edges.wrong + " wrong");
        if (Edges.wrong != 0 || names != 0) {
            System.exit(1);
        }
    }

    /** The document's parts, named as the tests name them, each on one line. */
    private static Map<String, String> parts(List<String> lines) {
        Map<String, String> parts = new LinkedHashMap<>();
        String part = "";
        for (String line : lines) {
            Matcher head = PART.matcher(line);
            if (head.matches()) {
                part = head.group(1) == null ? "Terms " + head.group(2) : head.group(1).replaceAll(":.*", "");
            }
            parts.merge(part, line, (before, next) -> before + " " + next);
        }
        parts.replaceAll((name, text) -> text.replace("`", "").replaceAll("\\s+", " "));
        return parts;
    }

    private static int wrongNames(Map<String, String> parts) {
        int wrong = 0;
        for (Map.Entry<String, List<String>> tested : Edges.SENTENCES.entrySet()) {
            for (String sentence : tested.getValue()) {
                if (!parts.getOrDefault(tested.getKey(), "").contains(sentence)) {
                    wrong++;
                    System.out.println("not in the document's " + tested.getKey() + ": " + sentence);
                }
            }
        }
        for (Map.Entry<String, String> part : parts.entrySet()) {
            if (part.getKey().matches("(Terms|Promise) \\d+")) {
                wrong += untested(part.getKey(), part.getValue());
            }
        }
        return wrong;
    }

    private static int untested(String part, String text) {
        List<int[]> tested = new ArrayList<>();
        for (String sentence : Edges.SENTENCES.getOrDefault(part, List.of())) {
            int start = text.indexOf(sentence);
            tested.add(new int[] {start, start + sentence.length()});
        }
        int wrong = 0;
        for (Matcher bound = BOUND.matcher(text); bound.find(); ) {
            int start = bound.start();
            int end = bound.end();
            if (tested.stream().noneMatch(span -> span[0] <= start && end <= span[1])) {
                wrong++;
                System.out.println("without a test in " + part + ": .." + text.substring(Math.max(0, start - 30),
                        Math.min(text.length(), end + 30)) + "..");
            }
        }
        return wrong;
    }
}
