import java.util.List;

/** Terms 3 and 4: what will be, and shops: each sentence with a bound, at both its ends. */
final class AheadEdges extends Edges {
    private static final String P = "g1,0;h0;";

    static void all() {
        firsts();
        gifts();
        carriedAndRound();
        baked();
        bought();
        souped();
        gavePeaEvening();
        keptAndRefused();
    }

    private static void firsts() {
        String t = "Terms 3";
        test(t, "FIRST: the first minute from now on in which an EATER goes HUNGRY;", AheadEdges::firstFromNowOn);
        test(t, "who (the first);", AheadEdges::firstWho);
        test(t, "none (to five).", AheadEdges::firstToFive);
    }

    private static void gifts() {
        String t = "Terms 3";
        test(t, "GIFT: of all single ones now", AheadEdges::giftsNow);
        test(t, "(from HOUSE to HOUSE, of a GOOD, of 1 to 9 pieces)", AheadEdges::giftPieces);
        test(t, "that by which TAKEN in all HOUSES together is worth least", AheadEdges::giftLeast);
        test(t, "of several the first (by from, to, GOOD, pieces, the least first):", AheadEdges::giftOfSeveral);
        test(t, "1000 times the one, 100 times the other, 10 times the GOOD and the pieces; as much;", AheadEdges::giftNumber);
        test(t, "none (by none it is less than without).", AheadEdges::giftNone);
    }

    private static void carriedAndRound() {
        String t = "Terms 3";
        test(t, "CARRIED of a GOOD: in each HOUSE all pieces that will be there at five"
                + " (nothing else being done; LEFT or not; on the way none) are to spare", AheadEdges::toSpare);
        test(t, "as many are wanted as its EATERS will go HUNGRY for them from now on:", AheadEdges::wanted);
        test(t, "the most pieces that can go from where they are to spare to where they are wanted (in the same HOUSE as well)",
                AheadEdges::mostPieces);
        test(t, "at the most c (0 to 60) cells away (0: the same cell, other HOUSES there, too).", AheadEdges::cellsAway);
        test(t, "ROUND of a collector from cell x (0 to 60) in m (0 to 99) minutes, a cell each:", AheadEdges::roundBounds);
        test(t, "he takes what is TAKEN in all HOUSES he comes by: the most it can be worth;", AheadEdges::roundWorth);
        test(t, "how far he goes then at the least.", AheadEdges::roundCells);
    }

    private static void baked() {
        String t = "Terms 4";
        test(t, "BAKE: to bake q (0 to 20) loaves", AheadEdges::bakeLoaves);
        test(t, "costs l (0 to 9) for each that is left, s (0 to 9) for each that is wanting, by DEMANDS:", AheadEdges::bakeCosts);
        test(t, "the q that costs least on the mean, the lowest;", AheadEdges::bakeLowest);
        test(t, "what it costs, in lowest terms; none (no DEMANDS).", AheadEdges::bakeTerms);
    }

    private static void bought() {
        String t = "Terms 4";
        test(t, "BUY: what is worth v (0 to 99) costs a less b times the minutes waited (0 at least; a 0 to 99, b 0 to 9);",
                AheadEdges::buyPrices);
        test(t, "in each minute waited it is gone by the chance of x (0 to 10) of ten:", AheadEdges::buyChances);
        test(t, "the minute (0 to 10) at which to buy is best on the mean (v less what it costs, if it is there), the first such;",
                AheadEdges::buyMinutes);
        test(t, "what that brings, in lowest terms, and 1000.", AheadEdges::buyTerms);
    }

    private static void souped() {
        String t = "Terms 4";
        test(t, "SOUP from all that is TAKEN:", AheadEdges::soupFromTaken);
        test(t, "how often to make RECIPES so that all soups are worth most", AheadEdges::soupMost);
        test(t, "of several ways the one that makes RECIPE 0 most often, then 1, ..: as much; how often.", AheadEdges::soupWays);
    }

    private static void gavePeaEvening() {
        String t = "Terms 4";
        test(t, "GAVE: of sets of HOUSES (bits; none, too)", AheadEdges::gaveSets);
        test(t, "those of which all that is TAKEN is worth v (0 to 9999): how many; the lowest; none.", AheadEdges::gaveWorth);
        test(t, "PEA: two eat by turns 1 to m (1 to 9) of n (1 to 99) peas", AheadEdges::peaBounds);
        test(t, "what the other one ate ahead not being eaten again at once (the first time all are well);", AheadEdges::peaNotAgain);
        test(t, "who can not eat has lost: how many the first one has to eat to win (the fewest); 0: he can not win.",
                AheadEdges::peaFewest);
        test(t, "AN EVENING by z (0 to 9999): from now to five", AheadEdges::eveningFromNow);
        test(t, "EATER i eats in a minute t if ((x times x) modulo 65521) modulo R (his) is 0, x being 7919 z, 6151 t, 3571 i and 1"
                + " together (else not), all else as always:", AheadEdges::eveningDraws);
        test(t, "what is TAKEN is worth; how often any goes HUNGRY (from now on).", AheadEdges::eveningHungry);
    }

    private static void keptAndRefused() {
        String t = "Terms 4";
        test(t, "KEPT are pieces (those eaten, too), GIFTS, minutes, HUNGRY ones:", AheadEdges::keptAll);
        test(t, "HUNGRY ones: 2 at most.", AheadEdges::keptTwo);
        test(t, "BAD: a number is none that is told (GOODS, HOUSES, EATERS, RECIPES: such as there are).", AheadEdges::suchAsThereAre);
        test(t, "NO: not as things stand. NONE: there is none. FULL. Of several the first in this order;", AheadEdges::orderOfRefusals);
        test(t, "nothing changes then.", AheadEdges::nothingChanges);
    }

    private static void firstFromNowOn() {
        LeftAtFive x = laid(P + "e0,0,10;");
        due("at minute 0", x.first(0), 10);
        x.pass(9);
        due("a minute ahead of it", x.first(0), 10);
        x.pass(1);
        due("in it: it is gone by", x.first(0), 20);
        due("each minute", laid(P + "e0,0,1;").first(0), 1);
        x = laid("g1,0;h0;h9;s1,0,1;e0,0,10;");
        x.give(1, 0, 0, 1);
        due("what is on the way will be there", x.first(0), 20);
        x = laid("g1,3;h0;s0,0,1;e0,0,11;");
        due("what spoils will be gone", x.first(0), 11);
    }

    private static void firstWho() {
        LeftAtFive x = laid("g1,0;g1,0;h0;s0,0,40;e0,0,3;e0,1,5;e0,1,5;");
        due("1 and 2 in minute 5", x.first(0), 5);
        due("the first of both", x.first(1), 1);
        x = laid("g1,0;h0;s0,0,1;e0,0,5;e0,0,5;");
        due("one piece for two", x.first(1), 1);
        x = laid("g1,0;h0;e0,0,20;e0,0,5;");
        due("who is hungry first, not who is told first", x.first(1), 1);
        due("told first", laid("g1,0;h0;e0,0,5;e0,0,5;").first(1), 0);
        due("told last", laid("g1,0;g1,0;h0;s0,0,40;" + times(7, "e0,0,20;") + "e0,1,20;").first(1), 7);
    }

    private static void firstToFive() {
        due("no eaters", laid(P).first(0), NONE);
        due("no eaters", laid(P).first(1), NONE);
        due("three pieces for three meals", laid(P + "s0,0,3;e0,0,20;").first(0), NONE);
        due("three pieces for three meals", laid(P + "s0,0,3;e0,0,20;").first(1), NONE);
        LeftAtFive x = laid(P + "s0,0,2;e0,0,20;");
        due("two pieces for three meals", x.first(0), 60);
        x.pass(59);
        due("a minute ahead of five", x.first(0), 60);
        due("a minute ahead of five", x.first(1), 0);
        x.pass(1);
        due("at five", x.first(0), NONE);
        due("at five", x.first(1), NONE);
    }

    private static void giftsNow() {
        LeftAtFive x = laid("g4,0;h0;h60;s0,0,9;");
        due("it would be there at five", x.gift(0), NONE);
        x.pass(1);
        due("it would not be there at five", x.gift(0), 109);
        x.pass(58);
        due("a minute ahead of five", x.gift(0), 109);
        x.pass(1);
        due("at five nothing is done", x.gift(0), NONE);
        due("at five nothing is done", x.gift(1), NONE);
        x = laid("g4,0;h0;h60;s0,0,1;");
        x.pass(1);
        due("one piece is there", x.gift(0), 101);
        x.give(0, 1, 0, 1);
        due("none is there any more", x.gift(0), NONE);
        x = sixOnTheWay();
        due("a seventh on the way is none", x.gift(0), NONE);
        x.undo();
        due("a sixth one is", x.gift(0), 109);
        x = laid("g4,0;h0;h1;h0;s0,0,40;e2,0,20;");
        for (int i = 0; i < 6; i++) {
            x.give(0, 1, 0, 1);
        }
        due("at the same cell none is on the way", x.gift(0), 203);
    }

    private static void giftPieces() {
        due("of one house", after(laid("g4,0;h0;s0,0,9;"), 1).gift(0), NONE);
        due("one piece", after(laid("g4,0;h0;h60;s0,0,1;"), 1).gift(0), 101);
        LeftAtFive x = after(laid("g4,0;h0;h60;s0,0,9;"), 1);
        due("nine pieces", x.gift(0), 109);
        due("nine pieces", x.gift(1), 0);
        x = after(laid("g4,0;h0;h60;s0,0,10;"), 1);
        due("of ten nine", x.gift(0), 109);
        due("of ten nine", x.gift(1), 4);
        x = after(laid("g4,0;h0;h60;s0,0,40;"), 1);
        due("of forty nine", x.gift(0), 109);
        due("of forty nine", x.gift(1), 124);
    }

    private static void giftLeast() {
        LeftAtFive x = laid("g4,0;h0;h0;s0,0,5;e1,0,20;");
        due("who would go hungry eats", x.gift(0), 103);
        due("in all houses together", x.gift(1), 8);
        x = laid("g4,1;h0;h0;s0,0,4;");
        due("a half is cut in each", x.gift(0), 101);
        due("a half is cut in each", x.gift(1), 4);
        x = laid("g4,1;h0;h0;s0,0,3;s1,0,1;");
        due("none is less: a half more", x.gift(0), NONE);
        x = after(laid("g2,0;g9,0;h0;h60;s0,0,9;s0,1,2;"), 1);
        due("two of nine are as much as nine of two: the good told first", x.gift(0), 109);
        x = after(laid("g2,0;g9,0;h0;h60;s0,0,8;s0,1,2;"), 1);
        due("two of nine are more than eight of two", x.gift(0), 112);
        due("two of nine are more than eight of two", x.gift(1), 16);
    }

    private static void giftOfSeveral() {
        due("by from", after(laid("g4,0;h0;h60;s0,0,2;s1,0,2;"), 1).gift(0), 102);
        due("by to", after(laid("g4,0;h0;h60;h60;s0,0,2;"), 1).gift(0), 102);
        due("by good", after(laid("g4,0;g4,0;h0;h60;s0,0,1;s0,1,1;"), 1).gift(0), 101);
        due("by pieces: two of three halved do as well as three", after(laid("g4,1;h0;h60;s0,0,3;"), 1).gift(0), 102);
        due("by from ahead of to", after(laid("g4,0;h0;h0;h60;s0,0,1;s1,0,1;"), 1).gift(0), 201);
        due("by to ahead of good", laid("g4,0;g4,0;h0;h0;h0;s0,0,1;s0,1,1;e2,0,20;e1,1,20;").gift(0), 111);
        due("by good ahead of pieces", after(laid("g4,1;g4,0;h0;h60;s0,0,3;s0,1,1;"), 1).gift(0), 102);
        due("least ahead of all", after(laid("g4,0;g4,0;h0;h60;s0,0,1;s1,1,2;"), 1).gift(0), 1012);
    }

    private static void giftNumber() {
        LeftAtFive x = laid("g1,0;g1,0;g1,0;g1,0;g9,0;h0;h0;h0;h0;h0;s4,4,9;e3,4,1;");
        due("the last houses, the last good, nine pieces", x.gift(0), 4349);
        due("as much", x.gift(1), 0);
        x = laid("g1,0;h0;h0;s1,0,1;e0,0,20;");
        due("from 1 to 0, of good 0, a piece", x.gift(0), 1001);
        x = new LeftAtFive();
        due("five solid ones to house 1", x.gift(0), 105);
        due("33 less five of three", x.gift(1), 18);
    }

    private static void giftNone() {
        due("nothing there", laid("g4,0;h0;h60;").gift(0), NONE);
        due("nothing there", laid("g4,0;h0;h60;").gift(1), NONE);
        due("as much as without", laid("g4,0;h0;h0;s0,0,9;").gift(0), NONE);
        due("as much as without", laid("g4,0;h0;h0;s0,0,9;").gift(1), NONE);
        due("sealed ones are none", after(laid("g4,2;h0;h60;s0,0,9;"), 1).gift(0), NONE);
        due("half of one is none", after(laid("g4,1;h0;h60;s0,0,1;"), 1).gift(0), NONE);
        due("more than without", laid("g4,1;h0;h0;s0,0,1;s1,0,1;").gift(0), NONE);
        due("one less is less", after(laid("g1,0;h0;h60;s0,0,1;"), 1).gift(1), 0);
    }

    private static void toSpare() {
        for (int kind = 0; kind <= 2; kind++) {
            due("five of kind " + kind, laid("g1," + kind + ";h0;h0;s0,0,5;e1,0,10;").carried(0, 0), 5);
        }
        due("six of eight spoil", laid("g1,3;h0;h0;s0,0,8;e1,0,10;").carried(0, 0), 2);
        due("six of six spoil", laid("g1,3;h0;h0;s0,0,6;e1,0,10;").carried(0, 0), 0);
        due("what is eaten there is not to spare", laid("g1,0;h0;h0;s0,0,5;e1,0,10;e0,0,20;").carried(0, 0), 2);
        due("nothing is there", laid("g1,0;h0;h0;e1,0,10;").carried(0, 60), 0);
        due("another good is not", laid("g1,0;g1,0;h0;h0;s0,1,5;e1,0,10;").carried(0, 60), 0);
        LeftAtFive x = laid("g1,0;h0;h60;s0,0,5;e0,0,20;");
        x.give(0, 1, 0, 5);
        due("at five it is there", x.carried(0, 60), 3);
        x = after(laid("g1,0;h0;h60;s0,0,5;e0,0,20;"), 1);
        x.give(0, 1, 0, 5);
        due("on the way none", x.carried(0, 60), 0);
    }

    private static void wanted() {
        LeftAtFive x = laid("g1,0;g1,0;h0;h0;s0,0,40;e1,0,10;e1,0,20;e1,1,1;");
        due("of all eaters there", x.carried(0, 0), 9);
        due("for that good", x.carried(1, 0), 0);
        x.pass(19);
        due("from now on", x.carried(0, 0), 8);
        x.pass(1);
        due("from now on", x.carried(0, 0), 6);
        x.pass(39);
        due("a minute ahead of five", x.carried(0, 0), 2);
        x.pass(1);
        due("at five", x.carried(0, 0), 0);
        due("nobody", laid("g1,0;h0;h0;s0,0,40;").carried(0, 60), 0);
        due("nobody hungry", laid("g1,0;h0;h0;s0,0,40;s1,0,3;e1,0,20;").carried(0, 60), 0);
        due("40 are there, 60 are wanted", laid("g1,0;h0;h0;s0,0,40;e1,0,1;").carried(0, 60), 40);
        due("80 are there, 60 are wanted", laid("g1,0;h0;h0;h0;s0,0,40;s2,0,40;e1,0,1;").carried(0, 60), 60);
    }

    private static void mostPieces() {
        LeftAtFive x = laid("g1,2;h10;h0;h20;h30;s0,0,3;s3,0,3;e1,0,20;e2,0,20;");
        due("house 0 to 1, house 3 to 2", x.carried(0, 10), 6);
        x = laid("g1,0;h10;h0;h20;s0,0,4;e1,0,20;e2,0,20;");
        due("four for six", x.carried(0, 10), 4);
        x = laid("g1,0;h10;h0;h20;s1,0,2;s2,0,2;e0,0,20;");
        due("three of two and two", x.carried(0, 10), 3);
        x = laid("g1,0;h0;h59;s1,0,5;e0,0,20;");
        x.give(1, 0, 0, 5);
        due("in the same house: hungry twice, then four are there", x.carried(0, 0), 2);
        x = laid("g1,0;h0;h10;h20;h30;h40;s1,0,1;s3,0,9;e0,0,20;e2,0,20;e4,0,20;");
        due("1 to 0, 3 to 2 and 4", x.carried(0, 10), 7);
        due("1 and 3 to all", x.carried(0, 30), 9);
    }

    private static void cellsAway() {
        LeftAtFive x = laid("g1,0;h0;h9;h0;s0,0,5;e1,0,20;");
        due("so far", x.carried(0, 9), 3);
        due("a cell less", x.carried(0, 8), 0);
        due("c 0: not next door", x.carried(0, 0), 0);
        x = laid("g1,0;h5;h5;h6;s0,0,5;e1,0,20;e2,0,15;");
        due("c 0: another house there", x.carried(0, 0), 3);
        due("c 1", x.carried(0, 1), 5);
        x = laid("g1,0;h0;h60;s0,0,5;e1,0,20;");
        due("c 60", x.carried(0, 60), 3);
        due("c 59", x.carried(0, 59), 0);
        due("c 61", x.carried(0, 61), BAD);
        due("c -1", x.carried(0, -1), BAD);
        x = laid("g1,0;h0;h60;s1,0,5;e0,0,20;");
        due("the other way", x.carried(0, 60), 3);
        due("the other way", x.carried(0, 59), 0);
    }

    private static void roundBounds() {
        LeftAtFive x = laid("g1,0;h0;h60;h30;s0,0,1;s1,0,2;s2,0,4;");
        due("x 0, m 0", x.round(0, 0, 0), 1);
        due("x 60, m 0", x.round(60, 0, 0), 2);
        due("x -1", x.round(-1, 0, 0), BAD);
        due("x 61", x.round(61, 0, 0), BAD);
        due("m -1", x.round(0, -1, 0), BAD);
        due("m 100", x.round(0, 100, 0), BAD);
        due("x 0, m 99", x.round(0, 99, 0), 7);
        due("x 60, m 99", x.round(60, 99, 0), 7);
        due("x 30, m 99", x.round(30, 99, 0), 7);
        due("x 30, m 90", x.round(30, 90, 0), 7);
        due("x 30, m 89", x.round(30, 89, 0), 6);
        due("x 39, m 99", x.round(39, 99, 0), 7);
        due("x 0, m 60", x.round(0, 60, 0), 7);
        due("x 0, m 59", x.round(0, 59, 0), 5);
        due("a cell each", x.round(29, 1, 0), 4);
        due("a cell each", x.round(28, 1, 0), 0);
        due("a cell each", x.round(31, 1, 0), 4);
    }

    private static void roundWorth() {
        LeftAtFive x = laid("g2,0;h40;h10;h34;s0,0,5;s1,0,5;s2,0,1;");
        due("up: by 34 to 40", x.round(31, 9, 0), 12);
        due("up, not so far as 40", x.round(31, 8, 0), 2);
        due("down", x.round(31, 21, 0), 12);
        due("up, then down", x.round(31, 39, 0), 22);
        due("up, then down: too far", x.round(31, 38, 0), 12);
        due("to 34, then down", x.round(31, 27, 0), 12);
        due("down, then up", x.round(15, 35, 0), 22);
        due("down, then up: too far", x.round(15, 34, 0), 12);
        due("nothing in reach", x.round(25, 8, 0), 0);
        due("in reach: house 2", x.round(25, 9, 0), 2);
        due("in the same cell all", laid("g1,0;h3;h3;s0,0,4;s1,0,5;").round(3, 0, 0), 9);
        due("what is taken: halves, no sealed ones", laid("g1,1;g9,2;h3;s0,0,5;s0,1,5;").round(3, 0, 0), 2);
        due("nothing is taken", laid("g1,0;h3;").round(3, 99, 0), 0);
    }

    private static void roundCells() {
        LeftAtFive x = laid("g2,0;h10;h20;h30;h50;s0,0,5;s2,0,5;");
        due("m 0", x.round(10, 0, 1), 0);
        due("m 99: to 30", x.round(10, 99, 1), 20);
        due("both ways: the near end twice", x.round(19, 99, 1), 9 + 20);
        due("both ways: the near end twice", x.round(21, 99, 1), 9 + 20);
        due("in the midst", x.round(20, 30, 1), 30);
        due("in the midst, one only", x.round(20, 29, 1), 10);
        due("the nearer one of two alike", x.round(19, 20, 1), 9);
        due("the nearer one of two alike", x.round(21, 20, 1), 9);
        due("an empty house is no way to go", x.round(20, 9, 1), 0);
        due("an empty house is no way to go", x.round(50, 19, 1), 0);
        due("a full one is", x.round(50, 20, 1), 20);
        due("nothing is taken", laid("g1,0;h3;").round(9, 99, 1), 0);
    }

    private static void bakeLoaves() {
        LeftAtFive x = laid(P + "d20,10;");
        due("20", x.bake(9, 9, 0), 20);
        due("20", x.bake(9, 9, 1), 0);
        due("20 though s is 1", x.bake(9, 1, 0), 20);
        x = laid(P + "d0,10;");
        due("0", x.bake(9, 9, 0), 0);
        due("0", x.bake(9, 9, 1), 0);
        x = laid(P + "d19,10;");
        due("19", x.bake(9, 9, 0), 19);
        x = laid(P + "d1,10;");
        due("1", x.bake(9, 9, 0), 1);
    }

    private static void bakeCosts() {
        LeftAtFive x = laid(P + "d0,5;d10,5;");
        due("l 0, s 0", x.bake(0, 0, 0), 0);
        due("l 9, s 0", x.bake(9, 0, 0), 0);
        due("l 0, s 9", x.bake(0, 9, 0), 10);
        due("l 9, s 8", x.bake(9, 8, 0), 0);
        due("l 9, s 8", x.bake(9, 8, 1), 40);
        due("l 8, s 9", x.bake(8, 9, 0), 10);
        due("l 8, s 9", x.bake(8, 9, 1), 40);
        due("l -1", x.bake(-1, 0, 0), BAD);
        due("l 10", x.bake(10, 0, 0), BAD);
        due("s -1", x.bake(0, -1, 0), BAD);
        due("s 10", x.bake(0, 10, 0), BAD);
        x = laid(P + "d3,1;d6,3;d9,6;");
        due("one of ten, three of ten, six of ten: 2 for what is left", x.bake(2, 1, 0), 6);
        due("two by 3 by 1, 1 by 3 by 6: 24 of ten", x.bake(2, 1, 1), 12);
        due("two by 3 by 1, 1 by 3 by 6: 24 of ten", x.bake(2, 1, 2), 5);
    }

    private static void bakeLowest() {
        due("all alike", laid(P + "d0,5;d20,5;").bake(9, 9, 0), 0);
        due("all from 5 to 15 alike", laid(P + "d5,5;d15,5;").bake(3, 3, 0), 5);
        due("nothing costs", laid(P + "d20,10;").bake(0, 0, 0), 0);
        due("wanting costs nothing", laid(P + "d20,10;").bake(1, 0, 0), 0);
        due("left ones cost nothing: no more than 7", laid(P + "d7,10;").bake(0, 1, 0), 7);
    }

    private static void bakeTerms() {
        LeftAtFive x = laid(P + "d0,9;d1,1;");
        due("a tenth: above", x.bake(9, 1, 1), 1);
        due("a tenth: below", x.bake(9, 1, 2), 10);
        x = laid(P + "d0,8;d1,2;");
        due("two tenths: above", x.bake(9, 1, 1), 1);
        due("two tenths: below", x.bake(9, 1, 2), 5);
        x = laid(P + "d0,5;d1,5;");
        due("a half: below", x.bake(1, 1, 2), 2);
        due("nothing: above", x.bake(0, 1, 1), 0);
        due("nothing: below", x.bake(0, 1, 2), 1);
        x = laid(P + "d0,5;d20,5;");
        due("the dearest: above", x.bake(9, 9, 1), 90);
        due("the dearest: below", x.bake(9, 9, 2), 1);
        for (int what = 0; what <= 2; what++) {
            due("no demands", laid(P).bake(1, 1, what), NONE);
        }
    }

    private static void buyPrices() {
        LeftAtFive x = new LeftAtFive();
        due("v 0, a 0, b 0", x.buy(0, 0, 0, 0, 1), 1000);
        due("v 99, a 0", x.buy(99, 0, 0, 0, 1), 1099);
        due("v 99, a 99, b 9", x.buy(99, 99, 9, 0, 1), 1090);
        due("v 0, a 99, b 0", x.buy(0, 99, 0, 0, 1), 901);
        due("v 0, a 90, b 9: 0 in minute 10", x.buy(0, 90, 9, 0, 0), 10);
        due("0 at least: 20 less 27 is 0", x.buy(5, 20, 9, 0, 0), 3);
        due("0 at least: 20 less 27 is 0", x.buy(5, 20, 9, 0, 1), 1005);
        due("a 0: 0 less 9 is 0", x.buy(5, 0, 9, 0, 0), 0);
        due("a 0: 0 less 9 is 0", x.buy(5, 0, 9, 0, 1), 1005);
        int[][] wrongs = {{-1, 0, 0}, {100, 0, 0}, {0, -1, 0}, {0, 100, 0}, {0, 0, -1}, {0, 0, 10}};
        for (int[] n : wrongs) {
            due("v " + n[0] + ", a " + n[1] + ", b " + n[2], x.buy(n[0], n[1], n[2], 0, 0), BAD);
        }
    }

    private static void buyChances() {
        LeftAtFive x = new LeftAtFive();
        due("x 0: it stays", x.buy(50, 50, 5, 0, 0), 10);
        due("x 0: it stays", x.buy(50, 50, 5, 0, 1), 1050);
        due("x 10: gone in the first minute", x.buy(50, 49, 9, 10, 0), 0);
        due("x 10: gone in the first minute", x.buy(50, 49, 9, 10, 1), 1001);
        due("x 10: a loss is waited away", x.buy(4, 5, 0, 10, 0), 1);
        due("x 10: a loss is waited away", x.buy(4, 5, 0, 10, 1), 1000);
        due("x 5: half of it in minute 1", x.buy(1, 5, 5, 5, 0), 1);
        due("x 5: 1000 and a half", x.buy(1, 5, 5, 5, 1), 2001);
        due("x 5: 1000 and a half", x.buy(1, 5, 5, 5, 2), 2);
        due("x 9: a tenth of it in minute 1", x.buy(1, 9, 9, 9, 1), 10001);
        due("x 9: a tenth of it in minute 1", x.buy(1, 9, 9, 9, 2), 10);
        due("x -1", x.buy(1, 5, 5, -1, 0), BAD);
        due("x 11", x.buy(1, 5, 5, 11, 0), BAD);
    }

    private static void buyMinutes() {
        LeftAtFive x = new LeftAtFive();
        due("minute 0", x.buy(99, 0, 9, 5, 0), 0);
        due("minute 10, the last one", x.buy(99, 99, 9, 0, 0), 10);
        due("minute 9", x.buy(99, 81, 9, 0, 0), 9);
        due("never better: the first such", x.buy(50, 30, 0, 0, 0), 0);
        due("never better, a loss that stays", x.buy(0, 99, 0, 0, 0), 0);
        due("nothing at all", x.buy(7, 7, 0, 3, 0), 0);
        // 4 at once; 8 by a half in the next minute.
        due("as good: the first such", x.buy(8, 4, 4, 5, 0), 0);
        due("a loss by chance: the last one is the least", x.buy(0, 99, 0, 1, 0), 10);
    }

    private static void buyTerms() {
        LeftAtFive x = new LeftAtFive();
        due("whole: below", x.buy(50, 30, 0, 0, 2), 1);
        due("a loss of 99: above", x.buy(0, 99, 0, 0, 1), 901);
        due("a loss of 99: below", x.buy(0, 99, 0, 0, 2), 1);
        due("nothing: above", x.buy(0, 0, 0, 0, 1), 1000);
        due("45 by 0.59049: above", x.buy(50, 30, 5, 1, 1), 20531441L);
        due("45 by 0.59049: below", x.buy(50, 30, 5, 1, 2), 20000L);
        due("1000 less 99 by 0.3486784401: above", x.buy(0, 99, 0, 1, 1), 9654808344301L);
        due("1000 less 99 by 0.3486784401: below", x.buy(0, 99, 0, 1, 2), 10000000000L);
    }

    private static void soupFromTaken() {
        due("of all houses together", laid("g1,0;h0;h9;h60;s0,0,1;s1,0,1;s2,0,1;k0,0,5;").soup(0), 1);
        due("halves, cut in each house", laid("g1,1;h0;h9;s0,0,3;s1,0,3;k0,0,5;").soup(0), 1);
        due("sealed ones none", laid("g1,2;h0;s0,0,40;k0,0,5;").soup(0), 0);
        due("what is left of spoiling ones", laid("g1,3;h0;s0,0,9;k0,0,5;").soup(0), 1);
        due("what is not eaten", laid("g1,0;h0;s0,0,9;e0,0,10;k0,0,5;").soup(0), 1);
        LeftAtFive x = laid("g1,0;h0;h1;s0,0,9;k0,0,5;");
        x.give(0, 1, 0, 4);
        due("what will come", x.soup(0), 4);
        x.undo();
        x.pass(59);
        x.give(1, 0, 0, 1);
        x.give(0, 1, 0, 4);
        due("what comes at five", x.soup(0), 4);
        x.undo();
        x.pass(1);
        due("at five", x.soup(0), 4);
        x = laid("g1,0;h0;h60;s0,0,9;k0,0,5;");
        x.pass(1);
        x.give(0, 1, 0, 4);
        due("on the way none", x.soup(0), 2);
    }

    private static void soupMost() {
        LeftAtFive x = laid("g1,0;g1,0;g1,0;h0;s0,0,4;s0,1,4;s0,2,4;k0,1,8;k0,2,9;");
        due("the dear one alone", x.soup(-1), 36);
        due("the dear one alone", x.soup(0), 0);
        due("the dear one alone", x.soup(1), 4);
        x = laid("g1,0;g1,0;g1,0;g1,0;h0;s0,0,4;s0,1,4;s0,2,4;s0,3,4;k0,1,9;k0,2,5;k1,3,5;");
        due("two cheap ones for a dear one", x.soup(-1), 40);
        due("two cheap ones for a dear one", x.soup(0), 0);
        due("two cheap ones for a dear one", x.soup(1), 4);
        due("two cheap ones for a dear one", x.soup(2), 4);
        x = laid("g1,0;g1,0;g1,0;h0;s0,0,5;s0,1,5;s0,2,5;k0,1,3;k0,0,4;k1,2,2;");
        due("a piece over for recipe 0", x.soup(-1), 19);
        due("a piece over for recipe 0", x.soup(0), 1);
        x = laid(P + "s0,0,9;");
        due("no recipes", x.soup(-1), 0);
        due("nothing there", laid(P + "k0,0,9;").soup(-1), 0);
        x = laid("g1,0;g1,0;h0;s0,0,4;s0,1,4;k0,0,5;k0,1,4;");
        due("two cheap ones for a dear one of two alike", x.soup(-1), 16);
        due("two cheap ones for a dear one of two alike", x.soup(1), 4);
        x.toss(0, 0, 4);
        due("nothing there any more", x.soup(-1), 0);
        due("nothing there any more", x.soup(1), 0);
        due("one piece for two", laid(P + "s0,0,1;k0,0,9;").soup(-1), 0);
        x = laid("g1,0;g1,0;h0;s0,0,40;k0,1,9;");
        due("none of the other one", x.soup(-1), 0);
        x = laid("g1,0;h0;h0;h0;h0;h0;s0,0,40;s1,0,40;s2,0,40;s3,0,40;s4,0,40;k0,0,9;k0,0,9;k0,0,9;");
        due("all there can be", x.soup(-1), 900);
        due("all there can be", x.soup(0), 100);
    }

    private static void soupWays() {
        LeftAtFive x = laid("g1,0;g1,0;g1,0;g1,0;h0;s0,0,4;s0,1,3;s0,2,9;s0,3,2;k0,3,5;k0,1,5;k0,2,5;");
        due("as much", x.soup(-1), 20);
        due("most of recipe 0", x.soup(0), 2);
        due("then most of recipe 1", x.soup(1), 2);
        due("then recipe 2", x.soup(2), 0);
        x = laid("g1,0;h0;s0,0,8;k0,0,3;k0,0,3;k0,0,3;");
        due("three alike: recipe 0", x.soup(0), 4);
        due("three alike: recipe 1", x.soup(1), 0);
        due("three alike: recipe 2", x.soup(2), 0);
        x = laid("g1,0;h0;s0,0,8;k0,0,2;k0,0,3;k0,0,3;");
        due("two alike: recipe 0", x.soup(0), 0);
        due("two alike: recipe 1", x.soup(1), 4);
        due("two alike: recipe 2", x.soup(2), 0);
    }

    private static void gaveSets() {
        LeftAtFive x = laid("g1,0;h0;h0;h0;h0;h0;s0,0,1;s1,0,2;s2,0,4;s3,0,8;s4,0,16;");
        due("none is a set, too", x.gave(0, 0), 1);
        due("none is a set, too", x.gave(0, 1), 0);
        due("house 0", x.gave(1, 1), 1);
        due("house 4", x.gave(16, 1), 16);
        due("0, 2 and 4", x.gave(21, 1), 21);
        due("all", x.gave(31, 0), 1);
        due("all", x.gave(31, 1), 31);
        due("more than all", x.gave(32, 0), 0);
        due("more than all", x.gave(32, 1), NONE);
        x = laid(P + "s0,0,3;");
        due("one house", x.gave(3, 1), 1);
        due("one house", x.gave(0, 0), 1);
    }

    private static void gaveWorth() {
        LeftAtFive x = laid("g1,0;h0;h0;h0;h0;h0;");
        due("v 0: all sets", x.gave(0, 0), 32);
        due("v 0: the lowest", x.gave(0, 1), 0);
        due("v 9999: none", x.gave(9999, 0), 0);
        due("v 9999: none", x.gave(9999, 1), NONE);
        due("v -1", x.gave(-1, 0), BAD);
        due("v 10000", x.gave(10000, 0), BAD);
        x = laid("g1,0;h0;h0;h0;h0;h0;s0,0,1;s1,0,1;s2,0,1;s3,0,1;s4,0,1;");
        due("v 1: five", x.gave(1, 0), 5);
        due("v 1: the lowest", x.gave(1, 1), 1);
        due("v 2: ten", x.gave(2, 0), 10);
        due("v 2: the lowest", x.gave(2, 1), 3);
        due("v 5: one", x.gave(5, 0), 1);
        due("v 6: none", x.gave(6, 0), 0);
        due("v 6: none", x.gave(6, 1), NONE);
        x = laid("g1,0;g5,0;h0;s0,0,9;s0,1,1;e0,0,10;");
        due("what is taken at five, of all goods", x.gave(8, 1), 1);
        due("not what is there now", x.gave(14, 1), NONE);
        x = laid("g9,0;g9,0;g9,0;g9,0;h0;h0;h0;h0;s0,0,40;s0,1,40;s0,2,40;s0,3,40;s1,0,40;s1,1,40;s1,2,40;s1,3,40;"
                + "s2,0,40;s2,1,40;s2,2,40;s2,3,40;s3,0,40;s3,1,40;s3,2,40;s3,3,40;");
        due("four thousand and more", x.gave(5760, 1), 15);
    }

    private static void peaBounds() {
        for (int m = 1; m <= 9; m++) {
            LeftAtFive x = new LeftAtFive();
            int[][] known = new int[100][10];
            for (int n = 1; n <= 99; n++) {
                due("pea(" + n + ", " + m + ")", x.pea(n, m), fewest(n, 0, m, known));
            }
            due("n 0", x.pea(0, m), BAD);
            due("n 100", x.pea(100, m), BAD);
        }
        LeftAtFive x = new LeftAtFive();
        due("m 0", x.pea(1, 0), BAD);
        due("m 10", x.pea(1, 10), BAD);
        due("m 0", x.pea(99, 0), BAD);
        due("m 10", x.pea(99, 10), BAD);
    }

    /** How many to eat with so many peas there, so many eaten just before; 1 above the answer is known. */
    private static int fewest(int left, int before, int m, int[][] known) {
        if (known[left][before] == 0) {
            known[left][before] = 1;
            for (int eats = Math.min(m, left); eats >= 1; eats--) {
                if (eats != before && fewest(left - eats, eats, m, known) == 0) {
                    known[left][before] = eats + 1;
                }
            }
        }
        return known[left][before] - 1;
    }

    private static void peaNotAgain() {
        LeftAtFive x = new LeftAtFive();
        due("1 of 2: the other one must not eat 1", x.pea(2, 1), 1);
        due("1 of 99: the other one must not eat 1", x.pea(99, 1), 1);
        due("1 of 2 of m 2: the other one must not eat 1", x.pea(2, 2), 1);
        due("the first time 1 is well", x.pea(1, 9), 1);
        due("of 3: 1, then 2; 2, then 1", x.pea(3, 2), 0);
        due("of 4: 1, then 2, then 1 must not be", x.pea(4, 2), 1);
    }

    private static void peaFewest() {
        LeftAtFive x = new LeftAtFive();
        due("one pea", x.pea(1, 1), 1);
        due("one pea, nine could be eaten", x.pea(1, 9), 1);
        due("both 1 and 2 win", x.pea(2, 9), 1);
        due("only all three win", x.pea(3, 3), 3);
        due("he can not win", x.pea(3, 2), 0);
    }

    private static LeftAtFive drawing() {
        return laid("g3,0;h0;h9;s0,0,20;s1,0,3;e0,0,2;e0,0,3;e1,0,20;e1,0,1;");
    }

    /** Taken and hungry by an evening of the drawing street from a minute on, nothing eaten or given before. */
    private static int[] drawn(int z, int from, int[] there, int[][] eaters) {
        int hungry = 0;
        for (int t = from + 1; t <= 60; t++) {
            for (int i = 0; i < eaters.length; i++) {
                long number = 7919L * z + 6151L * t + 3571L * i + 1;
                if (number * number % 65521 % eaters[i][1] == 0) {
                    if (there[eaters[i][0]] > 0) {
                        there[eaters[i][0]]--;
                    } else {
                        hungry++;
                    }
                }
            }
        }
        int pieces = 0;
        for (int n : there) {
            pieces += n;
        }
        return new int[] {pieces, hungry};
    }

    private static void eveningFromNow() {
        LeftAtFive x = drawing();
        for (int minute : new int[] {0, 1, 30, 59, 60}) {
            if (minute > 0) {
                x.pass(minute - x.count(5));
            }
            for (int z : new int[] {0, 1, 5000, 9998, 9999}) {
                int[] there = {x.house(0, 0, 0), x.house(1, 0, 0)};
                int[] due = drawn(z, minute, there, new int[][] {{0, 2}, {0, 3}, {1, 20}, {1, 1}});
                due("minute " + minute + ": evening(" + z + ", 0)", x.evening(z, 0), 3 * due[0]);
                due("minute " + minute + ": evening(" + z + ", 1)", x.evening(z, 1), due[1]);
            }
        }
        due("at five as taken", x.evening(0, 0), x.taken(-1));
        due("at five nobody", x.evening(0, 1), 0);
        due("z -1", x.evening(-1, 0), BAD);
        due("z 10000", x.evening(10000, 0), BAD);
    }

    private static void eveningDraws() {
        LeftAtFive x = laid("g1,0;h0;e0,0,1;e0,0,2;e0,0,3;e0,0,5;e0,0,7;e0,0,11;e0,0,19;e0,0,20;");
        int[][] eaters = {{0, 1}, {0, 2}, {0, 3}, {0, 5}, {0, 7}, {0, 11}, {0, 19}, {0, 20}};
        for (int z : new int[] {0, 1, 2, 8, 77, 1234, 5555, 9998, 9999}) {
            due("hungry by " + z, x.evening(z, 1), drawn(z, 0, new int[1], eaters)[1]);
            due("nothing there by " + z, x.evening(z, 0), 0);
        }
        due("R 1 eats in each minute", laid(P + "s0,0,40;e0,0,1;").evening(9999, 1), 20);
        // Gifts that come, spoiling ones: as always.
        LeftAtFive y = laid("g1,3;h0;h9;s0,0,9;e1,0,1;");
        y.give(0, 1, 0, 2);
        due("six of seven are gone", y.evening(3, 0), 1);
        due("one is eaten, the other one gone", y.evening(3, 1), 59);
        due("by pace as ever", y.taken(-1), 1);
        due("no eaters", laid(P + "s0,0,5;").evening(3, 0), 5);
        due("no eaters", laid(P + "s0,0,5;").evening(3, 1), 0);
    }

    private static void eveningHungry() {
        LeftAtFive x = laid(P + "s0,0,5;e0,0,1;");
        due("55 of 60", x.evening(1, 1), 55);
        x.pass(20);
        due("those from now on", x.evening(1, 1), 40);
        due("not those so far", x.eater(0, 1), 15);
        x.pass(39);
        due("the last one", x.evening(1, 1), 1);
        x.pass(1);
        due("none", x.evening(1, 1), 0);
        x = laid("g9,1;g9,2;g2,0;h0;s0,0,5;s0,1,5;s0,2,5;");
        due("what is left is worth", x.evening(1, 0), 18 + 0 + 10);
    }

    private static void keptAll() {
        LeftAtFive x = new LeftAtFive();
        x.give(0, 2, 0, 5);
        x.pass(20);
        List<String> then = stand(x);
        x.keep();
        x.toss(0, 0, 2);
        x.give(1, 0, 3, 2);
        x.pass(40);
        due("back", x.back(), 0);
        List<String> back = stand(x);
        // Nothing is undone then: two more could be ahead of it.
        due("undone ahead", then.indexOf("count(7) 2"), 7);
        then.set(7, "count(7) 0");
        alike("as kept", back, then);
    }

    private static void keptTwo() {
        LeftAtFive x = new LeftAtFive();
        due("none", x.back(), NO);
        due("one", x.keep(), 1);
        due("two", x.keep(), 2);
        refused("the third", AheadEdges::twoKept, LeftAtFive::keep, FULL);
        x.back();
        due("a second one again", x.keep(), 2);
    }

    private static LeftAtFive twoKept() {
        LeftAtFive x = busy();
        x.pass(5);
        x.keep();
        x.toss(0, 0, 1);
        return x;
    }

    private static void suchAsThereAre() {
        LeftAtFive x = laid(P + "s0,0,5;");
        due("good 1", x.house(0, 1, 0), BAD);
        due("house 1", x.house(1, 0, 0), BAD);
        due("eater 0", x.eater(0, 0), BAD);
        due("recipe 0", x.soup(0), BAD);
        due("house 1", x.give(0, 1, 0, 1), BAD);
        due("house 1", x.taken(1), BAD);
        due("good 1", x.carried(1, 0), BAD);
        due("good 1", x.toss(0, 1, 1), BAD);
        x = new LeftAtFive();
        due("the last good", x.house(0, 3, 0), 0);
        due("the last house", x.house(2, 0, 0), 2);
        due("the last eater", x.eater(3, 0), 0);
        due("the last recipe", x.soup(1), 4);
        write(x, P);
        x.lay();
        due("there no more: good 3", x.house(0, 3, 0), BAD);
        due("there no more: house 2", x.house(2, 0, 0), BAD);
        due("there no more: eater 3", x.eater(3, 0), BAD);
        due("there no more: recipe 1", x.soup(1), BAD);
    }

    private static void orderOfRefusals() {
        LeftAtFive full = written(times(200, "a"));
        due("BAD ahead of FULL: write", full.write(31), BAD);
        due("BAD ahead of FULL: write", full.write(127), BAD);
        due("FULL: write", full.write(32), FULL);
        LeftAtFive five = busyAtFive();
        due("BAD ahead of NO: pass", five.pass(61), BAD);
        due("BAD ahead of NO: pass", five.pass(0), BAD);
        due("NO: pass", five.pass(60), NO);
        due("BAD ahead of NO: give", five.give(1, 1, 3, 1), BAD);
        due("BAD ahead of NO: give", five.give(1, 0, 3, 41), BAD);
        due("BAD ahead of NO: toss", five.toss(1, 3, 0), BAD);
        due("BAD ahead of NONE: first", five.first(2), BAD);
        due("NONE: first", five.first(1), NONE);
        due("BAD ahead of NONE: gift", five.gift(2), BAD);
        due("NONE: gift", five.gift(1), NONE);
        due("BAD ahead of NONE: bake", laid(P).bake(1, 1, 3), BAD);
        due("BAD ahead of NONE: bake", laid(P).bake(10, 1, 0), BAD);
        due("NONE: bake", laid(P).bake(1, 1, 2), NONE);
        due("BAD ahead of NONE: gave", five.gave(9999, 2), BAD);
        due("NONE: gave", five.gave(9999, 1), NONE);
        due("BAD ahead of FULL: give", sixOnTheWay().give(0, 0, 0, 1), BAD);
        due("NO ahead of FULL: give", sixOnTheWay().give(0, 1, 0, 35), NO);
        due("NO ahead of FULL: give", after(sixOnTheWay(), 59).give(0, 1, 0, 1), NO);
        due("FULL: give", sixOnTheWay().give(0, 1, 0, 34), FULL);
    }

    private static void nothingChanges() {
        refused("write(31)", Edges::busy, x -> x.write(31), BAD);
        refused("pass(49)", Edges::busy, x -> x.pass(49), NO);
        refused("give(0, 1, 0, 8)", Edges::busy, x -> x.give(0, 1, 0, 8), NO);
        refused("toss(0, 0, 8)", Edges::busy, x -> x.toss(0, 0, 8), NO);
        refused("lay()", Edges::busy, LeftAtFive::lay, NO);
        refused("undo()", LeftAtFive::new, LeftAtFive::undo, NO);
        refused("back()", () -> after(new LeftAtFive(), 12), LeftAtFive::back, NO);
        refused("keep()", AheadEdges::twoKept, LeftAtFive::keep, FULL);
        refused("write('a')", () -> written(times(200, "a")), x -> x.write('a'), FULL);
        refused("the seventh gift", Edges::sixOnTheWay, x -> x.give(0, 1, 0, 1), FULL);
    }
}
