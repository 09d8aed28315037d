/** Each promise by hand-reckoned answers: ordinary inputs, the edges that the document names, wrong inputs. */
public final class PromiseTest {
    private static final int BAD = -1, NO = -2, FULL = -3, NONE = -4;
    private static final int LOW = Integer.MIN_VALUE, HIGH = Integer.MAX_VALUE;
    private static final String FIRST = "g3,0;g2,1;g5,2;g1,3;h0;h10;h25;s0,0,9;s0,1,7;s1,3,12;s2,2,3;s2,0,2;"
            + "e0,0,15;e1,0,12;e1,1,20;e2,3,10;d2,3;d4,5;d7,2;k0,1,8;k0,3,5;";

    private static int asked = 0;
    private static int wrong = 0;
    private static String promise = "";

    private static void due(String call, long got, long want) {
        asked++;
        if (got != want) {
            wrong++;
            System.out.println("promise " + promise + ": " + call + " answered " + got + ", due is " + want);
        }
    }

    private static LeftAtFive written(String text) {
        LeftAtFive x = new LeftAtFive();
        write(x, text);
        return x;
    }

    private static void write(LeftAtFive x, String text) {
        x.wipe();
        for (char letter : text.toCharArray()) {
            x.write(letter);
        }
    }

    private static LeftAtFive laid(String text) {
        LeftAtFive x = written(text);
        if (x.lay() < 1) {
            due("lay of " + text, x.lay(), 1);
        }
        return x;
    }

    public static void main(String[] args) {
        newObject();
        writeAndWipe();
        faults();
        lays();
        houses();
        eaters();
        ways();
        passes();
        gives();
        tosses();
        undos();
        takens();
        firsts();
        gifts();
        carrieds();
        rounds();
        bakes();
        buys();
        soups();
        gaves();
        peas();
        evenings();
        kepts();
        counts();
        System.out.println(asked + " answers looked at, " + wrong + " wrong");
        if (wrong != 0) {
            System.exit(1);
        }
    }

    private static void newObject() {
        promise = "1";
        due("BAD", LeftAtFive.BAD, BAD);
        due("NO", LeftAtFive.NO, NO);
        due("FULL", LeftAtFive.FULL, FULL);
        due("NONE", LeftAtFive.NONE, NONE);
        LeftAtFive x = new LeftAtFive();
        int[] told = {4, 3, 4, 3, 2, 0, 0, 0, 0, 0};
        for (int what = 0; what < told.length; what++) {
            due("count(" + what + ")", x.count(what), told[what]);
        }
        int[][] pieces = {{9, 7, 0, 0}, {0, 0, 0, 12}, {2, 0, 3, 0}};
        for (int h = 0; h < 3; h++) {
            for (int g = 0; g < 4; g++) {
                due("house(" + h + ", " + g + ", 0)", x.house(h, g, 0), pieces[h][g]);
            }
        }
        due("empty text's fault", x.fault(), NONE);
        due("empty text's lay", x.lay(), NO);
        due("undo", x.undo(), NO);
        due("back", x.back(), NO);
        due("way", x.way(0, 0), BAD);
        due("kind as told", x.house(0, 1, 1), 3);
        due("kind as told", x.house(2, 2, 1), 0);
        due("cells as told", x.give(0, 2, 0, 1), 25);
        LeftAtFive y = laid(FIRST);
        LeftAtFive z = new LeftAtFive();
        due("same", y.taken(-1), z.taken(-1));
        due("same", y.soup(1), z.soup(1));
        due("same", y.bake(3, 4, 1), z.bake(3, 4, 1));
        due("two objects are two", x.count(6) - z.count(6), 1);
    }

    private static void writeAndWipe() {
        promise = "2";
        LeftAtFive x = new LeftAtFive();
        due("write(31)", x.write(31), BAD);
        due("write(32)", x.write(32), 1);
        due("write(126)", x.write(126), 2);
        due("write(127)", x.write(127), BAD);
        due("write(-1)", x.write(-1), BAD);
        due("write(LOW)", x.write(LOW), BAD);
        due("write(HIGH)", x.write(HIGH), BAD);
        due("write(65536 + 65)", x.write(65536 + 65), BAD);
        due("nothing changed", x.count(9), 2);
        for (int i = 3; i <= 199; i++) {
            x.write('a');
        }
        due("the 200th", x.write('a'), 200);
        due("the 201st", x.write('a'), FULL);
        due("BAD ahead of FULL", x.write(31), BAD);
        due("count", x.count(9), 200);

        promise = "3";
        due("wipe", x.wipe(), 200);
        due("count", x.count(9), 0);
        due("wipe again", x.wipe(), 0);
        due("fault", x.fault(), NONE);
        due("write", x.write('g'), 1);
        due("what is laid stays", x.taken(-1), 33);
    }

    private static void fault(String text, int want) {
        due("fault of " + text, written(text).fault(), want);
    }

    private static void faults() {
        promise = "4";
        fault("", NONE);
        fault("g1,0;", NONE);
        fault("g9,3;", NONE);
        fault("g0,0;", 0);
        fault("g10,0;", 0);
        fault("g1,4;", 0);
        fault("g09,03;", NONE);
        fault("g009,3;", 0);
        fault("g1,003;", 0);
        fault("g1,0", 0);
        fault("g1", 0);
        fault("g", 0);
        fault("g1;", 0);
        fault("g1,0,1;", 0);
        fault("g,0;", 0);
        fault("g1,;", 0);
        fault("g1.0;", 0);
        fault("g-1,0;", 0);
        fault("g1,0;;", 5);
        fault("g1,0; h0;", 5);
        fault("g1,0;h0 ;", 5);
        fault("G1,0;", 0);
        fault(";", 0);
        fault("1", 0);
        fault("x1;", 0);
        fault("g1,0;g1,0;g1,0;g1,0;g1,0;", NONE);
        fault("g1,0;g1,0;g1,0;g1,0;g1,0;g1,0;", 25);
        fault("h0;", NONE);
        fault("h60;", NONE);
        fault("h61;", 0);
        fault("h99;", 0);
        fault("h100;", 0);
        fault("h1,2;", 0);
        fault("h7;h7;h7;h7;h7;", NONE);
        fault("h7;h7;h7;h7;h7;h7;", 15);
        fault("h0;h61;h62;", 3);
        fault("g1,0;h0;s0,0,40;", NONE);
        fault("g1,0;h0;s0,0,0;", NONE);
        fault("g1,0;h0;s0,0,41;", 8);
        fault("g1,0;h0;s0,0;", 8);
        fault("g1,0;h0;s1,0,1;", 8);
        fault("g1,0;h0;s0,1,1;", 8);
        fault("h0;s0,0,1;g1,0;", 3);
        fault("g1,0;s0,0,1;h0;", 5);
        fault("g1,0;h0;s0,0,1;s0,0,2;s0,0,3;s0,0,4;s0,0,5;s0,0,6;s0,0,7;", NONE);
        fault("g1,0;h0;e0,0,1;", NONE);
        fault("g1,0;h0;e0,0,20;", NONE);
        fault("g1,0;h0;e0,0,0;", 8);
        fault("g1,0;h0;e0,0,21;", 8);
        fault("g1,0;h0;e1,0,1;", 8);
        fault("g1,0;h0;e0,1,1;", 8);
        fault("g1,0;h0;e0,0,1;e0,0,1;e0,0,1;e0,0,1;e0,0,1;e0,0,1;e0,0,1;e0,0,1;", NONE);
        fault("g1,0;h0;e0,0,1;e0,0,1;e0,0,1;e0,0,1;e0,0,1;e0,0,1;e0,0,1;e0,0,1;e0,0,1;", 64);
        fault("d0,0;", NONE);
        fault("d20,10;", NONE);
        fault("d21,1;", 0);
        fault("d1,11;", 0);
        fault("d3,5;", NONE);
        fault("d1,1;d1,1;d1,1;d1,1;d1,1;", NONE);
        fault("d1,1;d1,1;d1,1;d1,1;d1,1;d1,1;", 25);
        fault("g1,0;k0,0,1;", NONE);
        fault("g1,0;k0,0,9;", NONE);
        fault("g1,0;k0,0,0;", 5);
        fault("g1,0;k0,0,10;", 5);
        fault("g1,0;k1,0,1;", 5);
        fault("g1,0;k0,1,1;", 5);
        fault("k0,0,1;g1,0;", 0);
        fault("g1,0;k0,0,1;k0,0,1;k0,0,1;", NONE);
        fault("g1,0;k0,0,1;k0,0,1;k0,0,1;k0,0,1;", 26);
        fault(FIRST, NONE);
        fault(FIRST + "q", FIRST.length());
        LeftAtFive x = written("g0,0;");
        x.fault();
        due("fault changes nothing laid", x.taken(-1), 33);
    }

    private static void lay(String text, int want) {
        due("lay of " + text, written(text).lay(), want);
    }

    private static void lays() {
        promise = "5";
        lay(FIRST, 3);
        lay("g1,0;h5;", 1);
        lay("h5;g1,0;", 1);
        lay("g1,0;", NO);
        lay("h0;", NO);
        lay("", NO);
        lay("g1,0;h0;h0;h0;h0;h0;", 5);
        lay("g1,0;h0;d1,10;", 1);
        lay("g1,0;h0;d1,4;d2,6;d3,0;", 1);
        lay("g1,0;h0;d1,9;", NO);
        lay("g1,0;h0;d1,5;d2,6;", NO);
        lay("g1,0;h0;d1,0;", NO);
        lay("g1,0;h0;h61;", NO);
        lay("g1,0;h0;g", NO);

        LeftAtFive x = new LeftAtFive();
        x.give(0, 1, 0, 2);
        x.give(0, 2, 0, 2);
        x.keep();
        x.pass(12);
        write(x, "g1,0;h0;d1,9;");
        due("refused", x.lay(), NO);
        due("the minute stays", x.count(5), 12);
        due("gifts stay", x.count(6), 1);
        due("undone stays", x.count(7), 3);
        due("kept stays", x.count(8), 1);
        due("goods stay", x.count(0), 4);
        due("eaten stays", x.eater(1, 0), 1);
        write(x, FIRST);
        due("lay", x.lay(), 3);
        due("minute", x.count(5), 0);
        due("gifts", x.count(6), 0);
        due("undone", x.count(7), 0);
        due("kept", x.count(8), 0);
        due("undo", x.undo(), NO);
        due("back", x.back(), NO);
        due("the text stays", x.count(9), FIRST.length());
        due("eaten", x.eater(1, 0), 0);
        due("pieces", x.house(0, 0, 0), 9);
        due("taken", x.taken(-1), 33);
        due("lay again", x.lay(), 3);
        write(x, "g2,0;h0;");
        x.lay();
        due("no stock of the old text", x.house(0, 0, 0), 0);
        due("no eaters of the old text", x.count(2), 0);
        due("no demands of the old text", x.bake(1, 1, 0), NONE);
        due("no recipes of the old text", x.soup(-1), 0);
        write(x, "g1,0;h0;e0,0,1;d1,3;d1,3;d1,4;");
        x.lay();
        x.pass(5);
        due("lay again", x.lay(), 1);
        due("hungry no more", x.eater(0, 1), 0);
        write(x, "g1,0;h0;d1,4;d1,6;");
        due("only the new demands", x.lay(), 1);
        write(x, "g1,0;h0;d1,3;d1,3;");
        due("only the new demands", x.lay(), NO);
        write(x, "g2,0;h0;s0,0,5;s0,0,3;");
        x.lay();
        due("the last one of two", x.house(0, 0, 0), 3);
        write(x, "g2,0;h0;s0,0,5;s0,0,0;");
        x.lay();
        due("the last one of two", x.house(0, 0, 0), 0);
    }

    private static void houses() {
        promise = "6";
        LeftAtFive x = new LeftAtFive();
        due("now", x.house(0, 1, 0), 7);
        due("half of a liquid", x.house(0, 1, 1), 3);
        due("half of a liquid at five", x.house(0, 1, 2), 3);
        due("sealed", x.house(2, 2, 0), 3);
        due("sealed", x.house(2, 2, 1), 0);
        due("sealed", x.house(2, 2, 2), 0);
        due("solid", x.house(0, 0, 1), 9);
        due("solid, four are eaten", x.house(0, 0, 2), 5);
        due("spoiling", x.house(1, 3, 1), 12);
        due("spoiling, six are gone", x.house(1, 3, 2), 6);
        x.pass(30);
        due("now", x.house(1, 3, 0), 9);
        due("at five still", x.house(1, 3, 2), 6);
        due("h", x.house(-1, 0, 0), BAD);
        due("h", x.house(3, 0, 0), BAD);
        due("g", x.house(0, -1, 0), BAD);
        due("g", x.house(0, 4, 0), BAD);
        due("what", x.house(0, 0, -1), BAD);
        due("what", x.house(0, 0, 3), BAD);
        due("all", x.house(LOW, HIGH, LOW), BAD);
    }

    private static void eaters() {
        promise = "7";
        LeftAtFive x = new LeftAtFive();
        due("eaten", x.eater(0, 0), 0);
        due("hungry", x.eater(1, 1), 0);
        due("by five", x.eater(0, 2), 0);
        due("by five", x.eater(1, 2), 5);
        due("by five", x.eater(2, 2), 3);
        due("by five", x.eater(3, 2), 6);
        x.pass(24);
        due("eaten", x.eater(0, 0), 1);
        due("hungry", x.eater(1, 1), 2);
        due("hungry", x.eater(2, 1), 1);
        due("hungry", x.eater(3, 1), 2);
        due("in all, those so far too", x.eater(1, 2), 5);
        due("i", x.eater(-1, 0), BAD);
        due("i", x.eater(4, 0), BAD);
        due("what", x.eater(0, -1), BAD);
        due("what", x.eater(0, 3), BAD);
        // One piece for two who eat in the same minute: the first has it. What spoils is gone ahead of both.
        x = laid("g1,0;g1,3;h0;s0,0,1;s0,1,1;e0,0,10;e0,0,10;e0,1,10;");
        x.pass(10);
        due("the first eats", x.eater(0, 0), 1);
        due("the second is hungry", x.eater(1, 1), 1);
        due("spoiled ahead", x.eater(2, 1), 1);
        due("spoiled ahead", x.eater(2, 0), 0);
        // A gift is there ahead of what spoils and of eaters.
        x = laid("g1,3;h0;h10;s0,0,2;e1,0,10;");
        x.give(0, 1, 0, 2);
        x.pass(10);
        due("one spoils, one is eaten", x.eater(0, 0), 1);
        due("none is left", x.house(1, 0, 0), 0);
    }

    private static void ways() {
        promise = "8";
        LeftAtFive x = new LeftAtFive();
        due("none", x.way(0, 0), BAD);
        x.give(0, 2, 0, 2);
        x.give(0, 1, 1, 3);
        x.pass(1);
        x.give(1, 0, 3, 4);
        int[][] told = {{2, 0, 2, 25}, {1, 1, 3, 10}, {0, 3, 4, 11}};
        for (int k = 0; k < 3; k++) {
            for (int what = 0; what < 4; what++) {
                due("way(" + k + ", " + what + ")", x.way(k, what), told[k][what]);
            }
        }
        due("k", x.way(3, 0), BAD);
        due("k", x.way(-1, 0), BAD);
        due("k", x.way(HIGH, 0), BAD);
        due("what", x.way(0, 4), BAD);
        due("what", x.way(0, -1), BAD);
        x.pass(9);
        due("the next one moves up", x.way(0, 0), 2);
        due("the next one moves up", x.way(1, 0), 0);
        due("the next one moves up", x.way(1, 3), 11);
        due("one is there", x.way(2, 0), BAD);
    }

    private static void passes() {
        promise = "9";
        LeftAtFive x = new LeftAtFive();
        due("0", x.pass(0), BAD);
        due("61", x.pass(61), BAD);
        due("LOW", x.pass(LOW), BAD);
        due("HIGH", x.pass(HIGH), BAD);
        due("nothing changed", x.count(5), 0);
        due("nothing to undo", x.count(7), 0);
        due("1", x.pass(1), 1);
        due("60", x.pass(60), NO);
        due("59", x.pass(59), 60);
        due("1 at five", x.pass(1), NO);
        due("61 at five", x.pass(61), BAD);
        due("what is eaten", x.house(0, 0, 0), 5);
        due("what spoils", x.house(1, 3, 0), 6);
        due("60 at once", new LeftAtFive().pass(60), 60);
        x = laid("g1,3;h0;h0;s0,0,1;s1,0,3;");
        x.pass(9);
        due("not yet", x.house(1, 0, 0), 3);
        x.pass(1);
        due("one in each", x.house(0, 0, 0), 0);
        due("one in each", x.house(1, 0, 0), 2);
        x.pass(10);
        due("none goes below none", x.house(0, 0, 0), 0);
        due("one more", x.house(1, 0, 0), 1);
    }

    private static void gives() {
        promise = "10";
        LeftAtFive x = new LeftAtFive();
        due("from", x.give(-1, 1, 0, 1), BAD);
        due("from", x.give(3, 1, 0, 1), BAD);
        due("to", x.give(0, -1, 0, 1), BAD);
        due("to", x.give(0, 3, 0, 1), BAD);
        due("to itself", x.give(1, 1, 3, 1), BAD);
        due("good", x.give(0, 1, -1, 1), BAD);
        due("good", x.give(0, 1, 4, 1), BAD);
        due("pieces", x.give(0, 1, 0, 0), BAD);
        due("pieces", x.give(0, 1, 0, -1), BAD);
        due("pieces", x.give(0, 1, 0, 41), BAD);
        due("not so many", x.give(0, 1, 0, 10), NO);
        due("not so many", x.give(0, 1, 0, 40), NO);
        due("nothing changed", x.house(0, 0, 0), 9);
        due("nothing to undo", x.count(7), 0);
        due("all of them", x.give(0, 1, 0, 9), 10);
        due("out at once", x.house(0, 0, 0), 0);
        due("not there yet", x.house(1, 0, 0), 0);
        x.pass(9);
        due("not there yet", x.house(1, 0, 0), 0);
        x.pass(1);
        due("there", x.house(1, 0, 0), 9);
        x.pass(49);
        due("behind five", x.give(1, 2, 0, 1), 74);
        due("on the way for good", x.count(6), 1);
        x.pass(1);
        due("on the way for good", x.count(6), 1);
        due("five", x.give(1, 0, 0, 1), NO);
        due("BAD ahead of NO", x.give(1, 1, 0, 1), BAD);

        x = laid("g1,0;h30;h30;h0;h60;s0,0,40;s3,0,40;");
        due("same cell", x.give(0, 1, 0, 3), 0);
        due("at once", x.house(1, 0, 0), 3);
        due("never on the way", x.count(6), 0);
        x.pass(7);
        due("same cell", x.give(1, 0, 0, 1), 7);
        for (int i = 0; i < 6; i++) {
            due("the whole street", x.give(3, 2, 0, 1), 67);
        }
        due("the seventh", x.give(3, 2, 0, 1), FULL);
        due("nothing changed", x.house(3, 0, 0), 34);
        due("NO ahead of FULL", x.give(3, 2, 0, 40), NO);
        due("BAD ahead of FULL", x.give(3, 2, 0, 41), BAD);
        due("six on the way do not stop the same cell", x.give(0, 1, 0, 1), 7);
        x = laid("g1,0;h30;h31;s0,0,40;");
        for (int i = 0; i < 6; i++) {
            due("next door", x.give(0, 1, 0, 2), 1);
        }
        due("the seventh next door", x.give(0, 1, 0, 2), FULL);
        due("back there none is", x.give(1, 0, 0, 1), NO);
        x.pass(1);
        due("all six are there", x.house(1, 0, 0), 12);
        due("and six more can be sent", x.give(0, 1, 0, 2), 2);
        x = laid("g1,0;h0;h60;s0,0,2;");
        due("in the last minute", x.give(0, 1, 0, 1), 60);
        due("it comes", x.house(1, 0, 2), 1);
        x.pass(1);
        due("a minute too late", x.give(0, 1, 0, 1), 61);
        due("it does not come", x.house(1, 0, 2), 1);
        due("nor is it where it was", x.house(0, 0, 2), 0);
        x.pass(59);
        due("one is still on the way", x.count(6), 1);
        x = laid("g1,0;h0;h0;s0,0,40;s1,0,40;");
        x.give(0, 1, 0, 40);
        due("more than forty in a house", x.house(1, 0, 0), 80);
    }

    private static void tosses() {
        promise = "11";
        LeftAtFive x = new LeftAtFive();
        due("h", x.toss(-1, 0, 1), BAD);
        due("h", x.toss(3, 0, 1), BAD);
        due("g", x.toss(0, -1, 1), BAD);
        due("g", x.toss(0, 4, 1), BAD);
        due("n", x.toss(0, 0, 0), BAD);
        due("n", x.toss(0, 0, 41), BAD);
        due("n", x.toss(0, 0, LOW), BAD);
        due("not so many", x.toss(0, 0, 10), NO);
        due("nothing changed", x.house(0, 0, 0), 9);
        due("nothing to undo", x.count(7), 0);
        due("some", x.toss(0, 0, 4), 5);
        due("all", x.toss(0, 0, 5), 0);
        due("none there", x.toss(0, 0, 1), NO);
        due("two to undo", x.count(7), 2);
        x.pass(60);
        due("five", x.toss(1, 3, 1), NO);
        due("BAD ahead of NO", x.toss(1, 3, 41), BAD);
    }

    private static void undos() {
        promise = "12";
        LeftAtFive x = new LeftAtFive();
        due("nothing", x.undo(), NO);
        x.pass(12);
        x.give(0, 1, 0, 5);
        x.toss(0, 1, 7);
        x.pass(48);
        due("eaten", x.eater(1, 0), 4);
        due("hungry", x.eater(3, 1), 6);
        due("minutes of one call at once", x.undo(), 3);
        due("the minute", x.count(5), 12);
        due("eaten as it was", x.eater(1, 0), 0);
        due("hungry as it was", x.eater(3, 1), 1);
        due("on the way as it was", x.way(0, 3), 22);
        due("what is thrown", x.undo(), 2);
        due("it is there again", x.house(0, 1, 0), 7);
        due("a gift", x.undo(), 1);
        due("none on the way", x.count(6), 0);
        due("it is there again", x.house(0, 0, 0), 9);
        due("minutes", x.undo(), 0);
        due("hungry no more", x.eater(3, 1), 0);
        due("nothing", x.undo(), NO);
        for (int i = 0; i < 7; i++) {
            x.pass(i + 1);
        }
        due("seven", x.count(7), 7);
        x.pass(8);
        due("eight", x.count(7), 8);
        x.pass(9);
        due("eight at most", x.count(7), 8);
        due("refused calls are none of them", x.pass(60), NO);
        int[] minutes = {36, 28, 21, 15, 10, 6, 3, 1};
        for (int left = 7; left >= 0; left--) {
            due("undo", x.undo(), left);
            due("the minute", x.count(5), minutes[7 - left]);
        }
        due("the first can not be undone", x.undo(), NO);
        due("the minute behind it", x.count(5), 1);
        x = laid("g1,0;h4;h4;s0,0,5;");
        x.give(0, 1, 0, 2);
        due("a gift at the same cell", x.undo(), 0);
        due("it is there again", x.house(0, 0, 0), 5);
        due("and there no more", x.house(1, 0, 0), 0);
    }

    private static void takens() {
        promise = "13";
        LeftAtFive x = new LeftAtFive();
        due("all", x.taken(-1), 33);
        due("one", x.taken(0), 21);
        due("one", x.taken(1), 6);
        due("one", x.taken(2), 6);
        due("h", x.taken(3), BAD);
        due("h", x.taken(-2), BAD);
        due("h", x.taken(LOW), BAD);
        due("h", x.taken(HIGH), BAD);
        x.pass(60);
        due("at five", x.taken(-1), 33);
        x = laid("g9,1;h0;h0;s0,0,3;s1,0,3;");
        due("halves are cut in each house", x.taken(-1), 18);
        x = laid("g3,0;h0;h60;s0,0,9;");
        x.give(0, 1, 0, 4);
        due("it comes at five", x.taken(-1), 27);
        x.undo();
        x.pass(1);
        x.give(0, 1, 0, 4);
        due("on the way none", x.taken(-1), 15);
    }

    private static void firsts() {
        promise = "14";
        LeftAtFive x = new LeftAtFive();
        due("minute", x.first(0), 10);
        due("who", x.first(1), 3);
        due("what", x.first(2), BAD);
        due("what", x.first(-1), BAD);
        x.pass(9);
        due("minute", x.first(0), 10);
        x.pass(1);
        due("from now on", x.first(0), 12);
        due("who", x.first(1), 1);
        x.pass(9);
        due("two at once: the first", x.first(0), 20);
        due("two at once: the first", x.first(1), 2);
        x.pass(40);
        due("in the last minute", x.first(0), 60);
        due("in the last minute", x.first(1), 1);
        x.pass(1);
        due("at five", x.first(0), NONE);
        due("at five", x.first(1), NONE);
        due("BAD ahead of NONE", x.first(2), BAD);
        x = laid("g1,0;h0;s0,0,3;e0,0,20;");
        due("nobody", x.first(0), NONE);
        x.toss(0, 0, 1);
        due("the third time", x.first(0), 60);
        due("first changes nothing", x.count(5), 0);
    }

    private static void gifts() {
        promise = "15";
        LeftAtFive x = new LeftAtFive();
        due("which", x.gift(0), 105);
        due("as much", x.gift(1), 18);
        due("what", x.gift(2), BAD);
        due("what", x.gift(-1), BAD);
        due("nothing changed", x.count(6) + x.count(7) + x.count(5), 0);
        x.pass(60);
        due("at five", x.gift(0), NONE);
        due("BAD ahead of NONE", x.gift(2), BAD);
        x = laid("g4,0;h0;h60;s0,0,20;");
        due("none is less", x.gift(0), NONE);
        due("none is less", x.gift(1), NONE);
        x.pass(1);
        due("nine at most, behind five", x.gift(0), 109);
        due("as much", x.gift(1), 44);
        x = laid("g4,0;h0;h60;h60;s0,0,2;s1,0,2;");
        x.pass(1);
        due("the least house from, the least to, the least pieces", x.gift(0), 102);
        due("as much", x.gift(1), 8);
        x = laid("g4,1;g4,1;h0;h0;s0,0,3;s0,1,4;s1,1,1;");
        due("from the least house, the least good", x.gift(0), NONE);
        x = laid("g4,1;g4,1;h0;h0;s0,0,4;s0,1,4;");
        due("the least good", x.gift(0), 101);
        due("half is cut in both", x.gift(1), 12);
        x = laid("g1,0;g1,2;g9,0;g2,0;h0;h60;h60;s0,0,9;s0,1,9;s2,2,3;s2,3,9;");
        x.pass(1);
        due("of a good that is not the first", x.gift(0), 2023);
        due("as much", x.gift(1), 27);
        x = laid("g1,0;h0;h60;h60;s1,0,40;");
        x.pass(1);
        due("from", x.gift(0), 1009);
        for (int i = 0; i < 6; i++) {
            x.give(1, 0, 0, 1);
        }
        due("no seventh gift is on the way", x.gift(0), NONE);
        x = laid("g1,2;h0;h60;s0,0,9;");
        x.pass(1);
        due("sealed ones are none", x.gift(0), NONE);
        x = laid("g2,0;h0;h30;s0,0,10;e1,0,10;");
        due("those who would go hungry eat", x.gift(0), 104);
        due("as much", x.gift(1), 12);
        x.pass(31);
        due("too late, but gone", x.gift(0), 109);
        due("as much", x.gift(1), 2);
    }

    private static void carrieds() {
        promise = "16";
        LeftAtFive x = new LeftAtFive();
        due("far enough", x.carried(0, 10), 5);
        due("not far enough", x.carried(0, 9), 0);
        due("a spoiling one", x.carried(3, 15), 6);
        due("a spoiling one", x.carried(3, 14), 0);
        due("a liquid, all of it", x.carried(1, 10), 3);
        due("a sealed one, nobody wants", x.carried(2, 60), 0);
        due("g", x.carried(-1, 0), BAD);
        due("g", x.carried(4, 0), BAD);
        due("c", x.carried(0, -1), BAD);
        due("c", x.carried(0, 61), BAD);
        due("c", x.carried(0, HIGH), BAD);
        x.pass(36);
        due("as many as will go hungry from now on", x.carried(0, 60), 2);
        x.pass(24);
        due("at five nobody does", x.carried(0, 60), 0);
        // One house can give to both, one only to the second: all must be shared well.
        x = laid("g1,2;h10;h0;h20;h30;s0,0,3;s3,0,3;e1,0,20;e2,0,20;");
        due("sealed ones too", x.carried(0, 10), 6);
        due("none so near", x.carried(0, 9), 0);
        x = laid("g1,0;h10;h0;h20;s0,0,4;e1,0,20;e2,0,20;");
        due("four for six", x.carried(0, 10), 4);
        x = laid("g1,0;h0;h0;s0,0,2;e1,0,20;");
        due("the same cell", x.carried(0, 0), 2);
        // The gift comes behind the hunger, into the same house.
        x = laid("g1,0;h0;h10;s1,0,5;e0,0,5;");
        x.give(1, 0, 0, 5);
        due("eaten from minute 10 on", x.carried(0, 60), 0);
        x = laid("g1,0;h0;h59;s1,0,5;e0,0,20;");
        x.give(1, 0, 0, 5);
        due("in the same house as well", x.carried(0, 0), 2);
        x = laid("g1,0;h0;h60;s1,0,5;e0,0,20;");
        x.pass(1);
        x.give(1, 0, 0, 5);
        due("on the way none", x.carried(0, 60), 0);
    }

    private static void rounds() {
        promise = "17";
        LeftAtFive x = new LeftAtFive();
        due("from 10", x.round(10, 15, 0), 27);
        due("from 10", x.round(10, 15, 1), 10);
        due("both ways", x.round(10, 35, 0), 33);
        due("both ways, the short one twice", x.round(10, 35, 1), 35);
        due("one less", x.round(10, 34, 0), 27);
        due("nowhere", x.round(60, 34, 0), 0);
        due("nowhere", x.round(60, 34, 1), 0);
        due("just there", x.round(60, 35, 0), 6);
        due("just there", x.round(60, 35, 1), 35);
        due("to the end", x.round(60, 99, 0), 33);
        due("to the end", x.round(60, 99, 1), 60);
        due("where it starts", x.round(25, 0, 0), 6);
        due("where it starts", x.round(25, 0, 1), 0);
        due("from 0", x.round(0, 0, 0), 21);
        due("from 0", x.round(0, 25, 0), 33);
        due("from 0", x.round(0, 25, 1), 25);
        due("x", x.round(-1, 0, 0), BAD);
        due("x", x.round(61, 0, 0), BAD);
        due("m", x.round(0, -1, 0), BAD);
        due("m", x.round(0, 100, 0), BAD);
        due("what", x.round(0, 0, 2), BAD);
        due("what", x.round(0, 0, -1), BAD);
        x = laid("g2,0;h10;h20;h30;s0,0,5;s2,0,5;");
        due("the nearer one of two alike", x.round(19, 20, 1), 9);
        due("an empty house is no way to go", x.round(20, 9, 1), 0);
        due("both", x.round(20, 30, 0), 20);
        due("both", x.round(20, 30, 1), 30);
        due("only one", x.round(20, 29, 0), 10);
        due("only one", x.round(20, 29, 1), 10);
        x = laid("g2,0;h40;h10;h34;s0,0,5;s1,0,5;s2,0,1;");
        due("up first", x.round(31, 30, 0), 12);
        due("up, then down", x.round(31, 39, 0), 22);
        due("up, then down", x.round(31, 39, 1), 39);
        due("down is too far behind it", x.round(31, 38, 0), 12);
        due("down and up is farther", x.round(31, 38, 1), 9);
        due("down first", x.round(15, 35, 0), 22);
        due("down first", x.round(15, 35, 1), 35);
        due("down first", x.round(15, 34, 0), 12);
        due("up to both is nearer", x.round(15, 34, 1), 25);
    }

    private static void bakes() {
        promise = "18";
        LeftAtFive x = new LeftAtFive();
        due("q", x.bake(1, 2, 0), 4);
        due("above", x.bake(1, 2, 1), 9);
        due("below", x.bake(1, 2, 2), 5);
        due("nothing costs: the lowest", x.bake(0, 0, 0), 0);
        due("nothing above", x.bake(0, 0, 1), 0);
        due("nothing over 1", x.bake(0, 0, 2), 1);
        due("what is left costs nothing", x.bake(0, 9, 0), 7);
        due("what is wanting costs nothing", x.bake(9, 0, 0), 0);
        due("l", x.bake(-1, 0, 0), BAD);
        due("l", x.bake(10, 0, 0), BAD);
        due("s", x.bake(0, -1, 0), BAD);
        due("s", x.bake(0, 10, 0), BAD);
        due("what", x.bake(0, 0, -1), BAD);
        due("what", x.bake(0, 0, 3), BAD);
        x = laid("g1,0;h0;d0,5;d20,5;");
        due("of several the lowest", x.bake(1, 1, 0), 0);
        due("above", x.bake(1, 1, 1), 10);
        due("below", x.bake(1, 1, 2), 1);
        due("twenty", x.bake(1, 2, 0), 20);
        due("twenty", x.bake(1, 2, 1), 10);
        x = laid("g1,0;h0;d1,10;");
        due("one", x.bake(1, 1, 0), 1);
        due("one", x.bake(1, 1, 1), 0);
        x = laid("g1,0;h0;d0,9;d1,1;");
        due("a tenth", x.bake(9, 1, 1), 1);
        due("a tenth", x.bake(9, 1, 2), 10);
        x = laid("g1,0;h0;");
        due("no demands", x.bake(1, 1, 0), NONE);
        due("no demands", x.bake(1, 1, 2), NONE);
        due("BAD ahead of NONE", x.bake(1, 1, 3), BAD);
    }

    private static void buys() {
        promise = "19";
        LeftAtFive x = new LeftAtFive();
        due("minute", x.buy(50, 30, 5, 1, 0), 5);
        due("above", x.buy(50, 30, 5, 1, 1), 20531441L);
        due("below", x.buy(50, 30, 5, 1, 2), 20000L);
        due("nothing", x.buy(0, 0, 0, 10, 0), 0);
        due("nothing", x.buy(0, 0, 0, 10, 1), 1000);
        due("nothing", x.buy(0, 0, 0, 10, 2), 1);
        due("a loss is best waited away", x.buy(0, 99, 0, 10, 0), 1);
        due("it brings nothing", x.buy(0, 99, 0, 10, 1), 1000);
        due("a loss that stays: the first", x.buy(0, 99, 0, 0, 0), 0);
        due("a loss that stays", x.buy(0, 99, 0, 0, 1), 901);
        due("to the end", x.buy(99, 99, 9, 0, 0), 10);
        due("to the end", x.buy(99, 99, 9, 0, 1), 1090);
        due("no price below nothing: the first", x.buy(5, 20, 9, 0, 0), 3);
        due("no price below nothing", x.buy(5, 20, 9, 0, 1), 1005);
        due("at once", x.buy(99, 0, 9, 5, 0), 0);
        due("at once", x.buy(99, 0, 9, 5, 1), 1099);
        // A loss of 99 by 9 / 10 to the power of 10 is the least one of all.
        due("far out", x.buy(0, 99, 0, 1, 0), 10);
        due("above: 1000 less 99 by 0.3486784401", x.buy(0, 99, 0, 1, 1), 9654808344301L);
        due("below", x.buy(0, 99, 0, 1, 2), 10000000000L);
        due("v", x.buy(-1, 0, 0, 0, 0), BAD);
        due("v", x.buy(100, 0, 0, 0, 0), BAD);
        due("a", x.buy(0, -1, 0, 0, 0), BAD);
        due("a", x.buy(0, 100, 0, 0, 0), BAD);
        due("b", x.buy(0, 0, -1, 0, 0), BAD);
        due("b", x.buy(0, 0, 10, 0, 0), BAD);
        due("x", x.buy(0, 0, 0, -1, 0), BAD);
        due("x", x.buy(0, 0, 0, 11, 0), BAD);
        due("what", x.buy(0, 0, 0, 0, -1), BAD);
        due("what", x.buy(0, 0, 0, 0, 3), BAD);
    }

    private static void soups() {
        promise = "20";
        LeftAtFive x = new LeftAtFive();
        due("as much", x.soup(-1), 44);
        due("recipe 0", x.soup(0), 3);
        due("recipe 1", x.soup(1), 4);
        due("k", x.soup(2), BAD);
        due("k", x.soup(-2), BAD);
        due("k", x.soup(HIGH), BAD);
        x = laid("g1,0;h0;h9;s0,0,3;s1,0,4;k0,0,5;");
        due("two of it, from all houses", x.soup(0), 3);
        due("as much", x.soup(-1), 15);
        x = laid("g1,1;h0;h9;s0,0,3;s1,0,5;k0,0,5;");
        due("halves are cut in each house", x.soup(0), 1);
        x = laid("g1,0;g1,0;g1,0;h0;s0,0,4;s0,1,4;s0,2,4;k0,1,5;k0,2,5;k1,2,5;");
        due("all of all three", x.soup(-1), 30);
        due("recipe 0", x.soup(0), 2);
        due("recipe 1", x.soup(1), 2);
        due("recipe 2", x.soup(2), 2);
        due("k", x.soup(3), BAD);
        x = laid("g1,0;g1,0;g1,0;g1,0;h0;s0,0,4;s0,1,3;s0,2,9;s0,3,2;k0,3,5;k0,1,5;k0,2,5;");
        due("of several ways", x.soup(-1), 20);
        due("most of recipe 0", x.soup(0), 2);
        due("then most of recipe 1", x.soup(1), 2);
        due("then recipe 2", x.soup(2), 0);
        x = laid("g1,0;g1,0;g1,0;h0;s0,0,5;s0,1,5;s0,2,5;k0,1,3;k0,0,4;k1,2,2;");
        due("dear soups can be worth less", x.soup(-1), 19);
        due("recipe 0", x.soup(0), 1);
        due("recipe 1", x.soup(1), 2);
        due("recipe 2", x.soup(2), 4);
        x.pass(60);
        due("at five", x.soup(-1), 19);
        x.undo();
        x.toss(0, 2, 5);
        due("from what is taken", x.soup(-1), 15);
        x = laid("g1,0;g1,0;g1,0;h0;s0,0,9;s0,1,8;s0,2,4;k0,0,7;k0,1,8;k2,2,1;");
        due("all of recipe 1, and 2", x.soup(-1), 66);
        due("recipe 0", x.soup(0), 0);
        due("recipe 1", x.soup(1), 8);
        due("recipe 2", x.soup(2), 2);
        x = laid("g1,0;h0;s0,0,4;k0,0,9;");
        due("two soups", x.soup(0), 2);
        x.toss(0, 0, 4);
        due("nothing to cook from", x.soup(-1), 0);
        due("nothing to cook from", x.soup(0), 0);
        x = laid("g1,0;h0;s0,0,9;");
        due("no recipes", x.soup(-1), 0);
        due("no recipes", x.soup(0), BAD);
    }

    private static void gaves() {
        promise = "21";
        LeftAtFive x = new LeftAtFive();
        due("how many", x.gave(27, 0), 2);
        due("the lowest", x.gave(27, 1), 3);
        due("all", x.gave(33, 1), 7);
        due("two sets of one", x.gave(6, 0), 2);
        due("the lowest", x.gave(6, 1), 2);
        due("none of them is a set, too", x.gave(0, 0), 1);
        due("none of them is a set, too", x.gave(0, 1), 0);
        due("no set", x.gave(1, 0), 0);
        due("no set", x.gave(1, 1), NONE);
        due("9999", x.gave(9999, 0), 0);
        due("9999", x.gave(9999, 1), NONE);
        due("v", x.gave(-1, 0), BAD);
        due("v", x.gave(10000, 0), BAD);
        due("what", x.gave(0, 2), BAD);
        due("what", x.gave(0, -1), BAD);
        due("BAD ahead of NONE", x.gave(1, 2), BAD);
        x = laid("g1,0;h0;h0;h0;h0;h0;s4,0,2;");
        due("empty houses as well", x.gave(0, 0), 16);
        due("empty houses as well", x.gave(2, 0), 16);
        due("the last house's bit", x.gave(2, 1), 16);
    }

    private static void peas() {
        promise = "22";
        LeftAtFive x = new LeftAtFive();
        due("1, 1", x.pea(1, 1), 1);
        due("2, 1: not one again", x.pea(2, 1), 1);
        due("99, 1", x.pea(99, 1), 1);
        due("2, 2", x.pea(2, 2), 1);
        due("3, 2", x.pea(3, 2), 0);
        due("4, 2", x.pea(4, 2), 1);
        due("3, 3", x.pea(3, 3), 3);
        due("2, 9", x.pea(2, 9), 1);
        due("n", x.pea(0, 1), BAD);
        due("n", x.pea(100, 1), BAD);
        due("n", x.pea(LOW, 1), BAD);
        due("m", x.pea(1, 0), BAD);
        due("m", x.pea(1, 10), BAD);
        due("m", x.pea(1, HIGH), BAD);
        for (int m = 1; m <= 9; m++) {
            for (int n = 1; n <= 99; n += 7) {
                due("pea(" + n + ", " + m + ")", x.pea(n, m), fewest(n, 0, m, new int[100][10]));
                if (x.count(5) != 0) {
                    return;
                }
            }
        }
    }

    /** 1 above the answer is remembered, as 0 is an answer. */
    private static int fewest(int left, int before, int m, int[][] known) {
        if (known[left][before] == 0) {
            known[left][before] = 1;
            for (int eats = Math.min(m, left); eats >= 1; eats--) {
                if (eats != before && fewest(left - eats, eats, m, known) == 0) {
                    known[left][before] = eats + 1;
                }
            }
        }
        return known[left][before] - 1;
    }

    private static void evenings() {
        promise = "23";
        LeftAtFive x = new LeftAtFive();
        due("z", x.evening(-1, 0), BAD);
        due("z", x.evening(10000, 0), BAD);
        due("what", x.evening(0, -1), BAD);
        due("what", x.evening(0, 2), BAD);
        // Who eats in each minute is not drawn: one pace for all evenings.
        x = laid("g1,0;h0;s0,0,40;e0,0,1;");
        due("all forty are eaten", x.evening(9999, 0), 0);
        due("twenty times hungry", x.evening(9999, 1), 20);
        x.pass(50);
        due("from now on", x.evening(0, 1), 10);
        due("nothing changed", x.count(5), 50);
        x.pass(10);
        due("at five", x.evening(0, 1), 0);
        x = laid("g3,0;h0;s0,0,40;e0,0,2;e0,0,3;");
        for (int z = 0; z <= 9999; z += 1111) {
            int eaten = 0;
            for (int t = 1; t <= 60; t++) {
                for (int i = 0; i < 2; i++) {
                    long number = 7919L * z + 6151L * t + 3571L * i + 1;
                    eaten += number * number % 65521 % (2 + i) == 0 ? 1 : 0;
                }
            }
            due("evening(" + z + ", 0)", x.evening(z, 0), 3 * Math.max(0, 40 - eaten));
            due("evening(" + z + ", 1)", x.evening(z, 1), Math.max(0, eaten - 40));
        }
        due("the pace is as it was", x.taken(-1), 0);
    }

    private static void kepts() {
        promise = "24";
        LeftAtFive x = new LeftAtFive();
        x.give(0, 1, 0, 5);
        x.pass(12);
        due("one", x.keep(), 1);
        due("keeping is not undone", x.count(7), 2);
        x.pass(13);
        due("two", x.keep(), 2);
        due("three", x.keep(), FULL);
        due("two still", x.count(8), 2);
        x.toss(1, 3, 5);
        x.pass(35);

        promise = "25";
        due("the last one", x.back(), 1);
        due("the minute", x.count(5), 25);
        due("pieces", x.house(1, 3, 0), 10);
        due("nothing to undo", x.count(7), 0);
        due("nothing to undo", x.undo(), NO);
        x.pass(1);
        due("the first one", x.back(), 0);
        due("the minute", x.count(5), 12);
        due("eaten", x.eater(1, 0), 1);
        due("hungry", x.eater(3, 1), 1);
        due("nothing to undo", x.undo(), NO);
        due("none", x.back(), NO);
        x.pass(1);
        due("NO changes nothing", x.back(), NO);
        due("one to undo still", x.count(7), 1);
        x = new LeftAtFive();
        x.give(0, 2, 0, 5);
        x.keep();
        x.pass(60);
        x.back();
        due("on the way", x.count(6), 1);
        due("on the way", x.way(0, 3), 25);
        due("keep again", x.keep(), 1);
        x.undo();
        x.pass(3);
        x.keep();
        x.pass(3);
        while (x.undo() >= 0) {
            due("undone", x.count(8), 2);
        }
        due("what is undone stays kept", x.back(), 1);
        due("the minute", x.count(5), 3);
    }

    private static void counts() {
        promise = "26";
        LeftAtFive x = laid("g1,0;g2,0;h0;h1;h60;s0,0,9;e0,0,1;d1,4;d2,6;k0,0,1;k0,1,2;k1,1,3;");
        int[] told = {2, 3, 1, 2, 3};
        for (int what = 0; what < told.length; what++) {
            due("count(" + what + ")", x.count(what), told[what]);
        }
        x.give(0, 2, 0, 1);
        x.pass(4);
        x.keep();
        due("the minute", x.count(5), 4);
        due("gifts", x.count(6), 1);
        due("undone", x.count(7), 2);
        due("kept", x.count(8), 1);
        due("letters", x.count(9), 65);
        due("what", x.count(-1), BAD);
        due("what", x.count(10), BAD);
        due("what", x.count(LOW), BAD);
        due("what", x.count(HIGH), BAD);
    }
}
