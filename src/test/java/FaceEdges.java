import java.io.IOException;
import java.lang.reflect.Constructor;
import java.lang.reflect.Method;
import java.lang.reflect.Modifier;
import java.nio.charset.StandardCharsets;
import java.nio.file.Files;
import java.nio.file.Path;
import java.util.ArrayList;
import java.util.Arrays;
import java.util.List;
import java.util.regex.Matcher;
import java.util.regex.Pattern;

/** What the document says of the class as a whole: what it is, its public face, what stands ahead of which calls. */
final class FaceEdges extends Edges {
    private static final Path SOURCE = Path.of("src", "main", "java", "LeftAtFive.java");
    private static final Pattern CALL = Pattern.compile("(?m)^    public (?:int|long) (\\w+)\\(");

    /** Promises 2 to 26, as the public face tells them. */
    private static final String[] CALLS = {
        "int write(int letter)", "int wipe()", "int fault()", "int lay()", "int house(int h, int g, int what)",
        "int eater(int i, int what)", "int way(int k, int what)", "int pass(int n)",
        "int give(int from, int to, int g, int n)", "int toss(int h, int g, int n)", "int undo()", "int taken(int h)",
        "int first(int what)", "int gift(int what)", "int carried(int g, int c)", "int round(int x, int m, int what)",
        "int bake(int l, int s, int what)", "long buy(int v, int a, int b, int x, int what)", "int soup(int k)",
        "int gave(int v, int what)", "int pea(int n, int m)", "int evening(int z, int what)", "int keep()", "int back()",
        "int count(int what)",
    };

    static void all() {
        whatItIs();
        face();
        aheadOfTheCalls();
    }

    private static void whatItIs() {
        String p = "What it is";
        test(p, "What is left at five: whatever remains at that hour in any house is the state's,", FaceEdges::theStates);
        test(p, "told in a text with the first fault:", FaceEdges::toldInAText);
        test(p, "goods by worth and kind, houses of a street, what they have, eaters by pace, demands by chance, recipes;",
                FaceEdges::whatIsTold);
        test(p, "minutes that go by, gifts that are carried, things thrown away, undone;", FaceEdges::whatIsDone);
        test(p, "what is in which house, what will be left at five, who goes hungry first;", FaceEdges::whatIsAndWillBe);
        test(p, "the gift by which least is left, how much at the most can be carried to who would eat it;", FaceEdges::bestGifts);
        test(p, "the collector's best round;", FaceEdges::bestRound);
        test(p, "how much to bake, when to buy as prices fall;", FaceEdges::bakersAndBuyers);
        test(p, "soups from what is taken; who gave what by what came in; turns at the last pea;", FaceEdges::soupsSetsPeas);
        test(p, "evenings by draws, kitchens kept.", FaceEdges::eveningsAndKept);
    }

    private static void face() {
        String p = "The public face";
        test(p, "public final class LeftAtFive {", FaceEdges::publicAndFinal);
        test(p, "public LeftAtFive();", FaceEdges::oneConstructor);
        for (int i = 0; i < CALLS.length; i++) {
            String call = CALLS[i];
            test(p, "public " + call + ";", () -> declared(call));
            test("Promise " + (i + 2), call + ":", () -> declared(call));
        }
        test(p, "public int count(int what); }", FaceEdges::noOtherCalls);
    }

    private static void aheadOfTheCalls() {
        String t = "Terms 4";
        test(t, "Ahead of the calls write, wipe, fault, lay, house, eater, way the interface says: ---- kitchens.",
                () -> groups("kitchens", "write, wipe, fault, lay, house, eater, way"));
        test(t, "Ahead of the calls pass, give, toss, undo the interface says: ---- an hour.",
                () -> groups("an hour", "pass, give, toss, undo"));
        test(t, "Ahead of the calls taken, first, gift, carried, round the interface says: ---- what will be.",
                () -> groups("what will be", "taken, first, gift, carried, round"));
        test(t, "Ahead of the calls bake, buy, soup, gave, pea, evening the interface says: ---- shops.",
                () -> groups("shops", "bake, buy, soup, gave, pea, evening"));
        test(t, "Ahead of the calls keep, back, count the interface says: ---- kept.",
                () -> groups("kept", "keep, back, count"));
    }

    /** House 0 has five solid ones and four liquid ones, house 1, four cells on, two liquid ones and an eater. */
    private static LeftAtFive street() {
        return laid("g2,0;g1,1;h0;h4;s0,0,5;s0,1,4;s1,1,2;e1,0,20;d1,5;d2,5;k0,1,3;");
    }

    private static void theStates() {
        LeftAtFive x = laid("g2,0;h0;h9;h30;s0,0,5;s1,0,3;s2,0,1;");
        due("ahead of five", x.taken(-1), 18);
        x.pass(60);
        due("at five", x.taken(-1), 18);
        due("in any house", x.taken(0), 10);
        due("in any house", x.taken(1), 6);
        due("in any house", x.taken(2), 2);
    }

    private static void toldInAText() {
        LeftAtFive x = written("g2,0;g1,9;h0;h99;");
        due("the first fault", x.fault(), 5);
        due("not laid", x.lay(), NO);
        x.wipe();
        write(x, "g2,0;g1,1;h0;h9;");
        due("no fault", x.fault(), NONE);
        due("laid", x.lay(), 2);
    }

    private static void whatIsTold() {
        LeftAtFive x = street();
        int[] told = {2, 2, 1, 2, 1};
        for (int what = 0; what < told.length; what++) {
            due("count(" + what + ")", x.count(what), told[what]);
        }
        due("worth", x.taken(0), 2 * 5 + 2);
        due("kind", x.house(0, 1, 1), 2);
        due("what they have", x.house(1, 1, 0), 2);
        due("the pace", x.eater(0, 2), 3);
        due("by chance", x.bake(1, 2, 0), 2);
        due("the recipe", x.soup(-1), 9);
    }

    private static void whatIsDone() {
        LeftAtFive x = street();
        due("minutes", x.pass(7), 7);
        due("a gift", x.give(0, 1, 0, 2), 11);
        due("thrown away", x.toss(0, 0, 2), 1);
        due("undone", x.undo(), 2);
        due("there again", x.house(0, 0, 0), 3);
        x.pass(4);
        due("carried", x.house(1, 0, 0), 2);
    }

    private static void whatIsAndWillBe() {
        LeftAtFive x = street();
        due("now", x.house(0, 1, 0), 4);
        due("left now", x.house(0, 1, 1), 2);
        due("left at five", x.house(0, 1, 2), 2);
        due("hungry first, when", x.first(0), 20);
        due("hungry first, who", x.first(1), 0);
    }

    private static void bestGifts() {
        LeftAtFive x = street();
        due("three of good 0 to who eats three", x.gift(0), 103);
        due("13 less three of two", x.gift(1), 7);
        due("three of five", x.carried(0, 4), 3);
        due("too far away", x.carried(0, 3), 0);
    }

    private static void bestRound() {
        LeftAtFive x = street();
        due("here and there", x.round(0, 4, 0), 13);
        due("four cells", x.round(0, 4, 1), 4);
        due("here only", x.round(4, 3, 0), 1);
    }

    private static void bakersAndBuyers() {
        LeftAtFive x = street();
        due("one loaf", x.bake(1, 1, 0), 1);
        due("a half: above", x.bake(1, 1, 1), 1);
        due("a half: below", x.bake(1, 1, 2), 2);
        due("8, 6, 4, 2, 0", x.buy(10, 8, 2, 0, 0), 4);
        due("ten, and 1000", x.buy(10, 8, 2, 0, 1), 1010);
    }

    private static void soupsSetsPeas() {
        LeftAtFive x = street();
        due("three liquid ones are taken", x.soup(0), 3);
        due("12 came in: house 0", x.gave(12, 1), 1);
        due("1 came in: house 1", x.gave(1, 1), 2);
        due("13 came in: both", x.gave(13, 1), 3);
        due("one, not one again", x.pea(2, 1), 1);
        due("the last pea is the other one's", x.pea(3, 2), 0);
    }

    private static void eveningsAndKept() {
        LeftAtFive x = laid("g1,0;h0;s0,0,40;e0,0,2;");
        int meals = 0;
        for (long t = 1; t <= 60; t++) {
            long number = 7919 * 7 + 6151 * t + 1;
            meals += number * number % 65521 % 2 == 0 ? 1 : 0;
        }
        due("drawn", x.evening(7, 0), Math.max(0, 40 - meals));
        due("hungry", x.evening(7, 1), Math.max(0, meals - 40));
        due("kept", x.keep(), 1);
        x.pass(60);
        due("back", x.back(), 0);
        due("four again", x.count(5), 0);
    }

    private static void publicAndFinal() {
        int how = LeftAtFive.class.getModifiers();
        due("public", Modifier.isPublic(how) ? 1 : 0, 1);
        due("final", Modifier.isFinal(how) ? 1 : 0, 1);
        due("no package", LeftAtFive.class.getName().indexOf('.'), -1);
        due("of no other class", LeftAtFive.class.getSuperclass() == Object.class ? 1 : 0, 1);
        due("in the source", inSource("public final class LeftAtFive {"), 1);
    }

    private static void oneConstructor() {
        Constructor<?>[] all = LeftAtFive.class.getDeclaredConstructors();
        due("how many", all.length, 1);
        due("numbers", all[0].getParameterCount(), 0);
        due("public", Modifier.isPublic(all[0].getModifiers()) ? 1 : 0, 1);
    }

    private static void declared(String call) {
        List<String> found = new ArrayList<>();
        for (Method m : LeftAtFive.class.getDeclaredMethods()) {
            if (call.contains(" " + m.getName() + "(")) {
                found.add(m.toString());
            }
        }
        String types = call.replaceAll(" \\w+(,|\\))", "$1").replace(", ", ",");
        String want = "public " + types.replaceFirst(" (\\w+\\()", " LeftAtFive.$1");
        alike("in the class", found, List.of(want));
        due("with the names of its numbers, in the source", inSource("public " + call + " {"), 1);
    }

    private static void noOtherCalls() {
        int open = 0;
        for (Method m : LeftAtFive.class.getDeclaredMethods()) {
            open += Modifier.isPrivate(m.getModifiers()) ? 0 : 1;
        }
        due("calls", open, CALLS.length);
        long fields = Arrays.stream(LeftAtFive.class.getDeclaredFields()).filter(f -> !Modifier.isPrivate(f.getModifiers())).count();
        due("constants", fields, 4);
    }

    /** Between the words and the next such ones (or the first private method) stand these calls, in this order. */
    private static void groups(String words, String calls) {
        String source = source();
        String head = "\n    // ---- " + words + "\n";
        int start = source.indexOf(head);
        due("// ---- " + words + ", once", start >= 0 && source.lastIndexOf(head) == start ? 1 : 0, 1);
        int end = source.indexOf("\n    // ---- ", start + head.length());
        String group = source.substring(Math.max(0, start), end < 0 ? source.length() : end);
        List<String> found = new ArrayList<>();
        for (Matcher call = CALL.matcher(group); call.find(); ) {
            found.add(call.group(1));
        }
        alike("behind ---- " + words, found, List.of(calls.split(", ")));
    }

    private static int inSource(String text) {
        return (source().length() - source().replace(text, "").length()) / text.length();
    }

    private static String source() {
        try {
            return Files.readString(SOURCE, StandardCharsets.UTF_8);
        } catch (IOException e) {
            return "";
        }
    }
}
