import java.util.ArrayList;
import java.util.LinkedHashMap;
import java.util.List;
import java.util.Map;
import java.util.function.Supplier;
import java.util.function.ToLongFunction;

/**
 * What the edge tests share: tests named by the document's part and sentence, and twins, by which is seen that
 * a refused call changes nothing. An object of theirs is never asked for more than the document's 512 calls.
 */
class Edges {
    static final int BAD = -1, NO = -2, FULL = -3, NONE = -4;
    static final int LOW = Integer.MIN_VALUE, HIGH = Integer.MAX_VALUE;
    static final String FIRST = "g3,0;g2,1;g5,2;g1,3;h0;h10;h25;s0,0,9;s0,1,7;s1,3,12;s2,2,3;s2,0,2;"
            + "e0,0,15;e1,0,12;e1,1,20;e2,3,10;d2,3;d4,5;d7,2;k0,1,8;k0,3,5;";

    /** For each part of the document ("Terms 1", "Promise 10"): the sentences of it that have a test. */
    static final Map<String, List<String>> SENTENCES = new LinkedHashMap<>();

    static int tests = 0;
    static int answers = 0;
    static int wrong = 0;
    private static String name = "";

    static void test(String part, String sentence, Runnable body) {
        tests++;
        name = part + ", \"" + sentence + "\"";
        SENTENCES.computeIfAbsent(part, none -> new ArrayList<>()).add(sentence);
        body.run();
    }

    static void due(String call, long got, long want) {
        answers++;
        if (got != want) {
            wrong++;
            System.out.println(name + ": " + call + " answered " + got + ", due is " + want);
        }
    }

    static void alike(String when, List<String> got, List<String> want) {
        answers++;
        for (int i = 0; i < Math.max(got.size(), want.size()); i++) {
            String one = i < got.size() ? got.get(i) : "nothing";
            String other = i < want.size() ? want.get(i) : "nothing";
            if (!one.equals(other)) {
                wrong++;
                System.out.println(name + ": " + when + ": " + one + ", due is " + other);
                return;
            }
        }
    }

    /** The call is answered so, and all calls behind it answer as if it had not been made. */
    static void refused(String call, Supplier<LeftAtFive> state, ToLongFunction<LeftAtFive> made, long want) {
        LeftAtFive x = state.get();
        due(call, made.applyAsLong(x), want);
        alike("asked behind " + call, asked(x), asked(state.get()));
        x = state.get();
        made.applyAsLong(x);
        alike("undone behind " + call, undone(x), undone(state.get()));
        x = state.get();
        made.applyAsLong(x);
        alike("back behind " + call, broughtBack(x), broughtBack(state.get()));
    }

    /** A call that only asks is looked at as a refused one is: it changes nothing. */
    static void asks(String call, Supplier<LeftAtFive> state, ToLongFunction<LeftAtFive> made, long want) {
        refused(call, state, made, want);
    }

    /** The first numbers that are not allowed at both ends, and the farthest ones. */
    static int[] outside(int least, int most) {
        return new int[] {least - 1, most + 1, LOW, HIGH};
    }

    /** Where nothing is done any more to x: what all calls that ask answer. */
    static List<String> asked(LeftAtFive x) {
        List<String> all = new ArrayList<>(stand(x));
        int goods = x.count(0);
        int houses = x.count(1);
        int eaters = x.count(2);
        int recipes = x.count(4);
        for (int h = 0; h < houses; h++) {
            for (int g = 0; g < goods; g++) {
                all.add("house " + h + ", " + g + ": " + x.house(h, g, 1) + " " + x.house(h, g, 2));
            }
            all.add("taken(" + h + ") " + x.taken(h));
        }
        for (int i = 0; i < eaters; i++) {
            all.add("eater(" + i + ", 2) " + x.eater(i, 2));
        }
        for (int g = 0; g < goods; g++) {
            all.add("carried of " + g + ": " + x.carried(g, 0) + " " + x.carried(g, 15) + " " + x.carried(g, 60));
        }
        all.add("taken(-1) " + x.taken(-1));
        all.add("first " + x.first(0) + " " + x.first(1));
        all.add("gift " + x.gift(0) + " " + x.gift(1));
        all.add("round " + x.round(20, 15, 0) + " " + x.round(0, 99, 1));
        all.add("bake " + x.bake(1, 2, 0) + " " + x.bake(1, 2, 1) + " " + x.bake(1, 2, 2));
        all.add("buy " + x.buy(50, 30, 5, 1, 1));
        for (int k = -1; k < recipes; k++) {
            all.add("soup(" + k + ") " + x.soup(k));
        }
        all.add("gave " + x.gave(6, 0) + " " + x.gave(6, 1));
        all.add("pea " + x.pea(20, 3));
        all.add("evening " + x.evening(7, 0) + " " + x.evening(7, 1));
        all.add("fault " + x.fault());
        return all;
    }

    /** How it stands, and how it stands behind each undo, to the last one. */
    static List<String> undone(LeftAtFive x) {
        List<String> all = new ArrayList<>(stand(x));
        for (int left = x.undo(); left >= 0 && all.size() < 300; left = x.undo()) {
            all.add("undo " + left);
            all.addAll(stand(x));
        }
        return all;
    }

    /** How it stands behind each back, to the last one; then the text's fault, how it is laid, and its length. */
    static List<String> broughtBack(LeftAtFive x) {
        List<String> all = new ArrayList<>();
        for (int left = x.back(); left >= 0 && all.size() < 300; left = x.back()) {
            all.add("back " + left);
            all.addAll(stand(x));
        }
        all.add("fault " + x.fault());
        all.add("lay " + x.lay());
        all.addAll(stand(x));
        all.add("wipe " + x.wipe());
        return all;
    }

    /** Without what is reckoned ahead. */
    static List<String> stand(LeftAtFive x) {
        List<String> all = new ArrayList<>();
        int[] counts = new int[10];
        for (int what = 0; what <= 9; what++) {
            counts[what] = x.count(what);
            all.add("count(" + what + ") " + counts[what]);
        }
        for (int h = 0; h < counts[1]; h++) {
            for (int g = 0; g < counts[0]; g++) {
                all.add("house(" + h + ", " + g + ", 0) " + x.house(h, g, 0));
            }
        }
        for (int i = 0; i < counts[2]; i++) {
            all.add("eater " + i + ": " + x.eater(i, 0) + " " + x.eater(i, 1));
        }
        for (int k = 0; k < counts[6]; k++) {
            all.add("way " + k + ": " + x.way(k, 0) + " " + x.way(k, 1) + " " + x.way(k, 2) + " " + x.way(k, 3));
        }
        return all;
    }

    static void write(LeftAtFive x, String text) {
        for (int i = 0; i < text.length(); i++) {
            x.write(text.charAt(i));
        }
    }

    static LeftAtFive written(String text) {
        LeftAtFive x = new LeftAtFive();
        write(x, text);
        return x;
    }

    static LeftAtFive laid(String text) {
        LeftAtFive x = written(text);
        int houses = x.lay();
        if (houses < 1) {
            due("lay of " + text, houses, 1);
        }
        return x;
    }

    static LeftAtFive after(LeftAtFive x, int minutes) {
        int then = x.count(5) + minutes;
        due("pass(" + minutes + ")", x.pass(minutes), then);
        return x;
    }

    static String times(int n, String text) {
        return text.repeat(n);
    }

    /** The first street in minute 12, two gifts on the way, five to undo, one kept; a text with a fault. */
    static LeftAtFive busy() {
        LeftAtFive x = written("g1,0;h0;q");
        x.give(0, 1, 0, 2);
        x.give(0, 2, 1, 3);
        x.keep();
        x.pass(12);
        x.toss(1, 3, 1);
        x.give(1, 0, 3, 2);
        return x;
    }

    /** The same at five. */
    static LeftAtFive busyAtFive() {
        LeftAtFive x = busy();
        x.give(0, 2, 0, 1);
        x.pass(40);
        x.give(2, 0, 2, 3);
        x.pass(8);
        return x;
    }

    /** Six gifts on the way to the other end of the street, 34 pieces where they come from; two houses in one cell. */
    static LeftAtFive sixOnTheWay() {
        LeftAtFive x = laid("g1,0;h0;h60;h0;s0,0,40;");
        x.pass(1);
        for (int i = 0; i < 6; i++) {
            x.give(0, 1, 0, 1);
        }
        return x;
    }
}
