import java.io.IOException;
import java.nio.charset.StandardCharsets;
import java.nio.file.Files;
import java.nio.file.Path;
import java.util.Arrays;
import java.util.LinkedHashMap;
import java.util.List;
import java.util.Map;
import java.util.regex.Matcher;
import java.util.regex.Pattern;

/**
 * Each sentence of the document has a test of its own, named by the document's part and the sentence itself: those of
 * "What it is" and "The public face" stand in FaceEdges, of Terms 1 and 2 in TermEdges, of Terms 3 and 4 in AheadEdges,
 * of the promises in PromiseEdges. Then the names are looked at: each must stand in the document, and no word there
 * without a test.
 */
public final class EdgeTest {
    private static final Path DOCUMENT = Path.of("..", "shared", "DOC.md");
    private static final Pattern PART = Pattern.compile("^(?:## (.*)|======== (\\d+) (.*))$");
    private static final Pattern WORD = Pattern.compile("\\p{Alnum}");

    /** What is left free, or only names what follows: nothing to test. */
    private static final List<String> FREE = List.of("what later calls answer is free.");
    private static final List<String> FREE_PARTS = List.of("", "Terms", "Not promised");

    public static void main(String[] args) throws IOException {
        FaceEdges.all();
        TermEdges.all();
        AheadEdges.all();
        PromiseEdges.all();
        int names = 0;
        if (Files.exists(DOCUMENT)) {
            names = wrongNames(parts(Files.readAllLines(DOCUMENT, StandardCharsets.UTF_8)));
        } else {
            System.out.println("no document at " + DOCUMENT + ": the tests' names are not looked at");
        }
        System.out.println(Edges.tests + " tests, " + Edges.answers + " answers, " + Edges.wrong + " wrong");
        if (Edges.wrong != 0 || names != 0) {
            System.exit(1);
        }
    }

    /** The document's parts, named as the tests name them, each on one line, without its heads and fences. */
    private static Map<String, String> parts(List<String> lines) {
        Map<String, String> parts = new LinkedHashMap<>();
        String part = "";
        for (String line : lines) {
            Matcher head = PART.matcher(line);
            String text = line.startsWith("```") || line.startsWith("# ") ? "" : line;
            if (head.matches()) {
                part = head.group(1) == null ? "Terms " + head.group(2) : head.group(1).replaceAll(":.*", "");
                text = head.group(1) == null ? head.group(3) : "";
            }
            parts.merge(part, text, (before, next) -> before + " " + next);
        }
        parts.replaceAll((name, text) -> text.replace("`", "").replaceAll("\\s+", " ").trim());
        return parts;
    }

    private static int wrongNames(Map<String, String> parts) {
        int wrong = 0;
        for (Map.Entry<String, List<String>> tested : Edges.SENTENCES.entrySet()) {
            for (String sentence : tested.getValue()) {
                if (!parts.getOrDefault(tested.getKey(), "").contains(sentence)) {
                    wrong++;
                    System.out.println("not in the document's " + tested.getKey() + ": " + sentence);
                }
            }
        }
        for (Map.Entry<String, String> part : parts.entrySet()) {
            if (!FREE_PARTS.contains(part.getKey())) {
                wrong += untested(part.getKey(), part.getValue());
            }
        }
        return wrong;
    }

    private static int untested(String part, String text) {
        char[] letters = text.toCharArray();
        for (String sentence : Edges.SENTENCES.getOrDefault(part, List.of())) {
            blank(letters, text.indexOf(sentence), sentence.length());
        }
        for (String sentence : FREE) {
            blank(letters, text.indexOf(sentence), sentence.length());
        }
        int wrong = 0;
        for (String words : new String(letters).split("  +")) {
            if (WORD.matcher(words).find()) {
                wrong++;
                System.out.println("without a test in " + part + ": .." + words.trim() + "..");
            }
        }
        return wrong;
    }

    private static void blank(char[] letters, int start, int length) {
        if (start >= 0) {
            Arrays.fill(letters, start, start + length, ' ');
        }
    }
}
