/** Terms 1 and 2: each sentence with a bound, at both its ends, with nothing there and with all places full. */
final class TermEdges extends Edges {
    /** A good and a house: eight letters. */
    private static final String P = "g1,0;h0;";
    private static final String FIVE_GOODS = "g1,0;g2,1;g3,2;g4,3;g5,0;";
    private static final String FIVE_HOUSES = "h1;h2;h4;h8;h16;";

    static void all() {
        texts();
        items();
        faultsAndLaid();
        minutes();
        done();
        left();
    }

    private static void texts() {
        String t = "Terms 1";
        test(t, "A TEXT is letters (200 at most)", TermEdges::twoHundredLetters);
        test(t, "ITEMS one behind the other", TermEdges::oneBehindTheOther);
        test(t, "each a letter", TermEdges::itemLetters);
        test(t, "then numbers", TermEdges::howManyNumbers);
        test(t, "(one or two figures)", TermEdges::figures);
        test(t, "parted by ,", TermEdges::partedByCommas);
        test(t, "and a ; behind the last one", TermEdges::semicolonBehind);
    }

    private static void items() {
        String t = "Terms 1";
        test(t, "gW,K a GOOD worth W (1 to 9) a piece", TermEdges::worths);
        test(t, "of KIND K (0 SOLID, 1 LIQUID, 2 SEALED, 3 SPOILING)", TermEdges::kinds);
        test(t, "(0 SOLID, 1 LIQUID, 2 SEALED, 3 SPOILING); 5 at most, 0, 1, ..", TermEdges::fiveGoods);
        test(t, "hX a HOUSE at cell X (0 to 60)", TermEdges::cells);
        test(t, "a HOUSE at cell X (0 to 60); 5 at most, 0, 1, ..", TermEdges::fiveHouses);
        test(t, "sH,G,N HOUSE H has N (0 to 40) pieces of GOOD G", TermEdges::pieces);
        test(t, "of GOOD G (both told ahead;", TermEdges::stockToldAhead);
        test(t, "the last one of each two)", TermEdges::lastOfTwo);
        test(t, "eH,G,R an EATER in HOUSE H (told ahead) eats a piece of GOOD G (told ahead)", TermEdges::eaterToldAhead);
        test(t, "in each R-th minute (R 1 to 20)", TermEdges::paces);
        test(t, "in each R-th minute (R 1 to 20); 8 at most, 0, 1, ..", TermEdges::eightEaters);
        test(t, "dN,P a DEMAND of N (0 to 20) loaves", TermEdges::demandLoaves);
        test(t, "by P (0 to 10) of ten", TermEdges::demandChances);
        test(t, "of ten; 5 at most", TermEdges::fiveDemands);
        test(t, "all P together are 10, if there are any", TermEdges::chancesTogether);
        test(t, "kA,B,V a RECIPE: of a piece of GOOD A and one of GOOD B (both told ahead;", TermEdges::recipeToldAhead);
        test(t, "alike: two of it)", TermEdges::alikeTwoOfIt);
        test(t, "a soup worth V (1 to 9)", TermEdges::soupWorths);
        test(t, "a soup worth V (1 to 9); 3 at most, 0, 1, ..", TermEdges::threeRecipes);
    }

    private static void faultsAndLaid() {
        String t = "Terms 1";
        test(t, "FAULT: the place of the first letter of the first ITEM that is not so.", TermEdges::faultPlaces);
        test(t, "LAID is a TEXT without FAULT", TermEdges::laidWithoutFault);
        test(t, "of a GOOD and a HOUSE at least", TermEdges::goodAndHouse);
        test(t, "with all P together 10 or no DEMANDS (NO else;", TermEdges::noElse);
        test(t, "at first " + FIRST + ")", TermEdges::laidAtFirst);
    }

    private static void minutes() {
        String t = "Terms 2";
        test(t, "It is four at minute 0, five at minute 60.", TermEdges::fourToFive);
        test(t, "In a MINUTE (its number is the one behind it, 1 to 60)", TermEdges::numberOfAMinute);
        test(t, "one step behind the other: 1 GIFTS that come in it are there;", TermEdges::giftsFirst);
        test(t, "2 of SPOILING ones (of each such GOOD) a piece is gone in each HOUSE that has any", TermEdges::spoiling);
        test(t, "if 10 parts the minute;", TermEdges::tenParts);
        test(t, "3 EATERS, 0 first", TermEdges::eatersInOrder);
        test(t, "whose R parts it, eat a piece, if their HOUSE has one, else they go HUNGRY once more.", TermEdges::eatOrHungry);
    }

    private static void done() {
        String t = "Terms 2";
        test(t, "A GIFT of n pieces from a HOUSE to another one is out of the one at once", TermEdges::outAtOnce);
        test(t, "and comes in the minute that is as many from now as the cells between them", TermEdges::cellsBetween);
        test(t, "(at the same cell: at once, it is never on the way)", TermEdges::sameCell);
        test(t, "6 at most are on the way", TermEdges::sixOnTheWayAtMost);
        test(t, "(those that come behind five as well)", TermEdges::behindFiveAsWell);
        test(t, "THROWN away are n pieces of a HOUSE.", TermEdges::thrown);
        test(t, "Nothing is done behind five.", TermEdges::nothingBehindFive);
        test(t, "UNDONE is the latest of MINUTES (all of one call at once), GIFTS, what is THROWN", TermEdges::latestUndone);
        test(t, "(the last 8 can be)", TermEdges::lastEight);
    }

    private static void left() {
        String t = "Terms 2";
        test(t, "LEFT are at a time of so many pieces of a GOOD in a HOUSE: SOLID, SPOILING ones all", TermEdges::leftAll);
        test(t, "LIQUID ones half of them (cut, HOUSE by HOUSE)", TermEdges::leftHalf);
        test(t, "SEALED ones none; on the way none.", TermEdges::leftNone);
        test(t, "TAKEN is what is LEFT at five, nothing else being done: by pieces, by what it is worth.", TermEdges::takenAtFive);
    }

    private static void fault(String text, int want) {
        due("fault of " + text, written(text).fault(), want);
    }

    private static void lay(String text, int want) {
        due("lay of " + text, written(text).lay(), want);
    }

    /** Each number of one or two figures in an item behind the prefix: a fault there, but from least to most. */
    private static void bounds(String prefix, String before, String behind, int least, int most) {
        for (int n = 0; n <= 99; n++) {
            fault(prefix + before + n + behind, n >= least && n <= most ? NONE : prefix.length());
        }
    }

    private static void twoHundredLetters() {
        String text = P + times(24, "s0,0,10;");
        LeftAtFive x = new LeftAtFive();
        for (int i = 0; i < 200; i++) {
            due("letter " + (i + 1), x.write(text.charAt(i)), i + 1);
        }
        due("the 201st", x.write(';'), FULL);
        due("how many", x.count(9), 200);
        due("fault", x.fault(), NONE);
        due("lay", x.lay(), 1);
        x = laid(P + times(23, "s0,0,10;") + "s0,0,37;");
        due("the last item of 200 letters counts", x.house(0, 0, 0), 37);
        fault(P + times(23, "s0,0,10;") + "s0,0,41;", 192);
        fault(P + times(23, "s0,0,10;") + "s0,0,100", 192);
        fault("", NONE);
    }

    private static void oneBehindTheOther() {
        fault(P, NONE);
        fault(" " + P, 0);
        fault(P + " ", 8);
        fault("g1,0; h0;", 5);
        fault("g1,0;;h0;", 5);
        fault("g1,0;,h0;", 5);
        fault(";", 0);
        fault(P + "0", 8);
    }

    private static void itemLetters() {
        for (char c = 32; c <= 126; c++) {
            fault(c + "1;", c == 'h' ? NONE : 0);
            fault(c + "1,1;", c == 'g' || c == 'd' ? NONE : 0);
            fault(P + c + "0,0,1;", c == 's' || c == 'e' || c == 'k' ? NONE : 8);
            fault(P + c, 8);
            fault(P + c + ";", 8);
        }
    }

    private static void howManyNumbers() {
        String[] right = {"g1,1;", "h1;", "s0,0,1;", "e0,0,1;", "d1,1;", "k0,0,1;"};
        for (String item : right) {
            String one = item.substring(0, item.length() - 1);
            fault(P + item, NONE);
            fault(P + one + ",1;", 8);
            fault(P + one + ",1,1;", 8);
            fault(P + item.charAt(0) + ";", 8);
            if (item.indexOf(',') > 0) {
                fault(P + one.substring(0, one.length() - 2) + ";", 8);
            }
        }
        fault(P + "s0;", 8);
        fault(P + "e0;", 8);
        fault(P + "k0;", 8);
    }

    private static void figures() {
        String[][] parts = {{"g", ",1;"}, {"g1,", ";"}, {"h", ";"}, {"s", ",0,1;"}, {"s0,", ",1;"}, {"s0,0,", ";"},
            {"e", ",0,1;"}, {"e0,", ",1;"}, {"e0,0,", ";"}, {"d", ",1;"}, {"d1,", ";"}, {"k", ",0,1;"}, {"k0,", ",1;"}, {"k0,0,", ";"}};
        for (String[] part : parts) {
            boolean told = part[0].length() < 4 && "sek".indexOf(part[0].charAt(0)) >= 0;
            String one = told ? "0" : "1";
            fault(P + part[0] + part[1], 8);
            fault(P + part[0] + one + part[1], NONE);
            fault(P + part[0] + "0" + one + part[1], NONE);
            fault(P + part[0] + "00" + one + part[1], 8);
            fault(P + part[0] + "-" + one + part[1], 8);
            fault(P + part[0] + "+" + one + part[1], 8);
            fault(P + part[0] + " " + one + part[1], 8);
            fault(P + part[0] + one + " " + part[1], 8);
            fault(P + part[0] + "a" + part[1], 8);
            fault(P + part[0] + "/" + part[1], 8);
            fault(P + part[0] + ":" + part[1], 8);
        }
        due("two figures are tens and ones", laid("g1,0;h0;s0,0,36;").house(0, 0, 0), 36);
        due("a 0 ahead is nothing", laid("g1,0;h0;s00,00,06;").house(0, 0, 0), 6);
    }

    private static void partedByCommas() {
        for (char c = 32; c <= 126; c++) {
            fault("g1" + c + "0;", c == ',' ? NONE : 0);
            fault(P + "s0" + c + "0,1;", c == ',' ? NONE : 8);
            fault(P + "s0,0" + c + "1;", c == ',' ? NONE : 8);
        }
        fault("g1,,0;", 0);
        fault("g,1,0;", 0);
        fault("g1,0,;", 0);
        fault("h1,;", 0);
    }

    private static void semicolonBehind() {
        for (char c = 32; c <= 126; c++) {
            fault("g1,0" + c, c == ';' ? NONE : 0);
            fault(P + "s0,0,1" + c, c == ';' ? NONE : 8);
            fault("g1,0" + c + "h0;", c == ';' ? NONE : 0);
        }
        fault("h0", 0);
        fault("h0;h1", 3);
        fault("g1,0;h", 5);
        fault("g1,0;h0;s0,0,", 8);
        fault("g1,0;h0;s0,0", 8);
        lay("g1,0;h0", NO);
    }

    private static void worths() {
        bounds("", "g", ",0;", 1, 9);
        bounds(P, "g", ",3;", 1, 9);
        due("worth 1", laid("g1,0;h0;s0,0,40;").taken(0), 40);
        due("worth 9", laid("g9,0;h0;s0,0,40;").taken(0), 360);
    }

    private static void kinds() {
        bounds("", "g1,", ";", 0, 3);
        int[] leftNow = {9, 4, 0, 9};
        int[] leftAtFive = {9, 4, 0, 3};
        for (int kind = 0; kind <= 3; kind++) {
            LeftAtFive x = laid("g1," + kind + ";h0;s0,0,9;");
            due("nine of kind " + kind + " now", x.house(0, 0, 1), leftNow[kind]);
            due("nine of kind " + kind + " at five", x.house(0, 0, 2), leftAtFive[kind]);
            x = laid("g1,0;g1,1;g1,2;g1,3;g1," + kind + ";h0;s0,4,9;");
            due("nine of the fifth good, of kind " + kind + ", at five", x.house(0, 4, 2), leftAtFive[kind]);
        }
    }

    private static void fiveGoods() {
        fault(FIVE_GOODS, NONE);
        fault(FIVE_GOODS + "g1,0;", 25);
        fault("g1,0;g1,0;h0;g1,0;g1,0;g1,0;g1,0;", 28);
        LeftAtFive x = laid(FIVE_GOODS + "h0;s0,0,2;s0,1,3;s0,2,4;s0,3,7;s0,4,1;");
        due("how many", x.count(0), 5);
        int[] told = {2, 3, 4, 7, 1};
        for (int g = 0; g < 5; g++) {
            due("good " + g, x.house(0, g, 0), told[g]);
        }
        due("good 5", x.house(0, 5, 0), BAD);
        due("each by its own worth and kind", x.taken(-1), 2 + 2 + 0 + 4 + 5);
        due("one good", laid(P).count(0), 1);
        lay("h0;", NO);
    }

    private static void cells() {
        bounds("", "h", ";", 0, 60);
        LeftAtFive x = laid("g1,0;h0;h60;s0,0,1;s1,0,1;");
        due("from 0 to 60", x.give(0, 1, 0, 1), 60);
        due("from 60 to 0", x.give(1, 0, 0, 1), 60);
    }

    private static void fiveHouses() {
        fault(FIVE_HOUSES, NONE);
        fault(FIVE_HOUSES + "h0;", 16);
        fault("h0;h0;g1,0;h0;h0;h0;h0;", 20);
        LeftAtFive x = laid("g1,0;" + FIVE_HOUSES + "s4,0,4;");
        due("how many", x.count(1), 5);
        int[] between = {15, 14, 12, 8};
        for (int h = 0; h < 4; h++) {
            due("from house 4 to house " + h, x.give(4, h, 0, 1), between[h]);
        }
        due("house 5", x.house(5, 0, 0), BAD);
        due("one house", laid(P).count(1), 1);
    }

    private static void pieces() {
        bounds(P, "s0,0,", ";", 0, 40);
        due("none told", laid(P).house(0, 0, 0), 0);
        due("0", laid(P + "s0,0,0;").house(0, 0, 0), 0);
        due("1", laid(P + "s0,0,1;").house(0, 0, 0), 1);
        due("40", laid(P + "s0,0,40;").house(0, 0, 0), 40);
    }

    private static void stockToldAhead() {
        bounds(P, "s", ",0,1;", 0, 0);
        bounds(P, "s0,", ",1;", 0, 0);
        bounds("g1,0;" + FIVE_HOUSES, "s", ",0,1;", 0, 4);
        bounds(FIVE_GOODS + "h0;", "s0,", ",1;", 0, 4);
        fault("s0,0,1;", 0);
        fault("s0,0,1;" + P, 0);
        fault("g1,0;s0,0,1;h0;", 5);
        fault("h0;s0,0,1;g1,0;", 3);
        fault("g1,0;h0;g1,0;s1,1,1;h0;", 13);
        fault("g1,0;h0;h0;s1,1,1;g1,0;", 11);
        fault("g1,0;h0;h0;g1,0;s1,1,1;", NONE);
    }

    private static void lastOfTwo() {
        due("5, then 3", laid(P + "s0,0,5;s0,0,3;").house(0, 0, 0), 3);
        due("3, then 5", laid(P + "s0,0,3;s0,0,5;").house(0, 0, 0), 5);
        due("5, then none", laid(P + "s0,0,5;s0,0,0;").house(0, 0, 0), 0);
        due("of three the third", laid(P + "s0,0,5;s0,0,7;s0,0,6;").house(0, 0, 0), 6);
        LeftAtFive x = laid("g1,0;g1,0;h0;h0;s0,0,5;s1,0,6;s0,1,7;s1,1,8;s0,0,2;");
        due("of the same house and good", x.house(0, 0, 0), 2);
        due("another house", x.house(1, 0, 0), 6);
        due("another good", x.house(0, 1, 0), 7);
        due("another of both", x.house(1, 1, 0), 8);
        fault(P + "s0,0,5;s0,0,41;", 15);
    }

    private static void eaterToldAhead() {
        bounds(P, "e", ",0,1;", 0, 0);
        bounds(P, "e0,", ",1;", 0, 0);
        bounds("g1,0;" + FIVE_HOUSES, "e", ",0,1;", 0, 4);
        bounds(FIVE_GOODS + "h0;", "e0,", ",1;", 0, 4);
        fault("e0,0,1;", 0);
        fault("g1,0;e0,0,1;h0;", 5);
        fault("h0;e0,0,1;g1,0;", 3);
        fault("g1,0;h0;g1,0;e1,1,1;h0;", 13);
        fault("g1,0;h0;h0;e1,1,1;g1,0;", 11);
        LeftAtFive x = laid(FIVE_GOODS + FIVE_HOUSES + "s4,4,9;s3,4,9;s4,3,9;e4,4,5;");
        x.pass(5);
        due("the last house's last good", x.house(4, 4, 0), 8);
        due("no other house's", x.house(3, 4, 0), 9);
        due("no other good", x.house(4, 3, 0), 9);
    }

    private static void paces() {
        bounds(P, "e0,0,", ";", 1, 20);
        LeftAtFive x = laid(P + "e0,0,1;e0,0,2;e0,0,7;e0,0,19;e0,0,20;");
        int[] meals = {60, 30, 8, 3, 3};
        for (int i = 0; i < 5; i++) {
            due("eater " + i + " by five", x.eater(i, 2), meals[i]);
        }
        due("none at minute 0", x.eater(0, 1), 0);
        x.pass(1);
        due("each minute", x.eater(0, 1), 1);
        due("not yet the second", x.eater(1, 1), 0);
        x.pass(18);
        due("minute 19, 20 told", x.eater(4, 1), 0);
        due("minute 19, 19 told", x.eater(3, 1), 1);
        x.pass(1);
        due("minute 20, 20 told", x.eater(4, 1), 1);
        due("minute 20, 19 told", x.eater(3, 1), 1);
    }

    private static void eightEaters() {
        String eight = times(8, "e0,0,1;");
        fault(P + eight, NONE);
        fault(P + eight + "e0,0,1;", 64);
        fault(P + eight + "h0;e0,0,1;", 67);
        LeftAtFive x = laid(P + "s0,0,4;" + eight);
        due("how many", x.count(2), 8);
        x.pass(1);
        for (int i = 0; i < 8; i++) {
            due("eater " + i, x.eater(i, 0), i < 4 ? 1 : 0);
        }
        due("eater 8", x.eater(8, 0), BAD);
        x.pass(59);
        for (int i = 0; i < 8; i++) {
            due("eater " + i + ", eight meals in each of sixty minutes", x.eater(i, 0) + x.eater(i, 1), 60);
        }
        x = laid(P + "s0,0,9;" + eight);
        x.pass(1);
        due("the last of eight eats, too", x.eater(7, 0), 1);
        due("a piece is there still", x.house(0, 0, 0), 1);
        due("no eaters", laid(P).count(2), 0);
    }

    private static void demandLoaves() {
        bounds("", "d", ",10;", 0, 20);
        due("0 loaves", laid(P + "d0,10;").bake(1, 9, 0), 0);
        due("20 loaves", laid(P + "d20,10;").bake(1, 9, 0), 20);
    }

    private static void demandChances() {
        bounds("", "d1,", ";", 0, 10);
        LeftAtFive x = laid(P + "d20,0;d3,10;");
        due("0 of ten is never", x.bake(1, 9, 0), 3);
        due("10 of ten is ever", x.bake(1, 9, 1), 0);
    }

    private static void fiveDemands() {
        fault(times(5, "d1,2;"), NONE);
        fault(times(6, "d1,0;"), 25);
        fault(times(4, "d1,0;") + "h0;d1,0;d1,0;", 28);
        LeftAtFive x = laid(P + "d1,2;d2,2;d3,2;d4,2;d5,2;");
        due("how many", x.count(3), 5);
        due("the fifth counts", x.bake(0, 1, 0), 5);
        due("no demands", laid(P).count(3), 0);
    }

    private static void chancesTogether() {
        lay(P, 1);
        lay(P + "d1,10;", 1);
        lay(P + "d1,9;", NO);
        lay(P + "d1,0;", NO);
        lay(P + "d1,5;d1,5;", 1);
        lay(P + "d1,5;d1,4;", NO);
        lay(P + "d1,5;d1,6;", NO);
        lay(P + "d1,10;d1,0;", 1);
        lay(P + "d1,10;d1,1;", NO);
        lay(P + "d1,10;d1,10;", NO);
        lay(P + "d1,2;d1,2;d1,2;d1,2;d1,2;", 1);
        lay(P + "d1,2;d1,2;d1,2;d1,2;d1,1;", NO);
        lay(P + "d1,2;d1,2;d1,2;d1,2;d1,3;", NO);
        // No item for itself is wrong in these.
        fault(P + "d1,9;", NONE);
        fault(P + "d1,5;d1,6;", NONE);
    }

    private static void recipeToldAhead() {
        bounds(P, "k", ",0,1;", 0, 0);
        bounds(P, "k0,", ",1;", 0, 0);
        bounds(FIVE_GOODS, "k", ",0,1;", 0, 4);
        bounds(FIVE_GOODS, "k0,", ",1;", 0, 4);
        fault("k0,0,1;", 0);
        fault("k0,0,1;" + P, 0);
        fault("g1,0;k1,0,1;g1,0;", 5);
        fault("g1,0;k0,1,1;g1,0;", 5);
        fault("g1,0;k0,0,1;", NONE);
        LeftAtFive x = laid(FIVE_GOODS + "h0;s0,0,7;s0,4,3;k4,0,5;");
        due("a piece of the one and one of the other", x.soup(0), 3);
    }

    private static void alikeTwoOfIt() {
        int[] soups = {0, 0, 1, 1, 2};
        for (int n = 0; n <= 4; n++) {
            LeftAtFive x = laid(P + "s0,0," + n + ";k0,0,7;");
            due("soups of " + n, x.soup(0), soups[n]);
            due("worth of " + n, x.soup(-1), 7 * soups[n]);
        }
        due("soups of 40", laid(P + "s0,0,40;k0,0,7;").soup(0), 20);
    }

    private static void soupWorths() {
        bounds("g1,0;", "k0,0,", ";", 1, 9);
        due("worth 1", laid(P + "s0,0,2;k0,0,1;").soup(-1), 1);
        due("worth 9", laid(P + "s0,0,2;k0,0,9;").soup(-1), 9);
    }

    private static void threeRecipes() {
        fault("g1,0;" + times(3, "k0,0,1;"), NONE);
        fault("g1,0;" + times(4, "k0,0,1;"), 26);
        fault("g1,0;" + times(3, "k0,0,1;") + "h0;k0,0,1;", 29);
        LeftAtFive x = laid("g1,0;g1,0;g1,0;h0;s0,0,2;s0,1,4;s0,2,6;k0,0,1;k1,1,1;k2,2,1;");
        due("how many", x.count(4), 3);
        for (int k = 0; k < 3; k++) {
            due("recipe " + k, x.soup(k), k + 1);
        }
        due("recipe 3", x.soup(3), BAD);
        due("no recipes", laid(P).count(4), 0);
    }

    private static void faultPlaces() {
        fault("x", 0);
        fault("h61;", 0);
        fault("h0;h61;h62;x", 3);
        fault("h0;g1,0;s0,0,40;s0,1,40;s0,0,41;", 16);
        fault("h0;g1,0;s0,0,40;h0;s2,0,40;", 19);
        // The last letter is the wrong one, or there is none: the first letter of its item is told.
        fault("h0;g1,0;s0,0,4!", 8);
        fault("h0;g1,0;s0,0,4", 8);
        String text = P + "s0,0,1;" + times(23, "s0,0,10;");
        fault(text, NONE);
        fault(text + "x", 199);
        fault(text + ";", 199);
        due("no fault of laid ones, the text is empty", new LeftAtFive().fault(), NONE);
    }

    private static void laidWithoutFault() {
        for (String text : new String[] {P + "h61;", P + "g", P + "s0,0,41;", P + ";", "x" + P}) {
            refused("lay() of " + text, () -> busyWith(text), LeftAtFive::lay, NO);
        }
        lay(P + "h60;", 2);
    }

    private static LeftAtFive busyWith(String text) {
        LeftAtFive x = busy();
        x.wipe();
        write(x, text);
        return x;
    }

    private static void goodAndHouse() {
        for (String text : new String[] {"", "g1,0;", "h0;", "g1,0;k0,0,1;d1,10;", "h0;h1;d1,10;"}) {
            refused("lay() of " + text, () -> busyWith(text), LeftAtFive::lay, NO);
        }
        lay("g1,0;h0;", 1);
        lay("h0;g1,0;", 1);
    }

    private static void noElse() {
        for (String text : new String[] {P + "d1,9;", P + "d1,5;d1,6;", P + "d1,0;", P + "d1,3;d1,3;d1,3;"}) {
            refused("lay() of " + text, () -> busyWith(text), LeftAtFive::lay, NO);
        }
    }

    private static void laidAtFirst() {
        LeftAtFive x = new LeftAtFive();
        LeftAtFive y = laid(FIRST);
        y.wipe();
        alike("a new object", asked(x), asked(y));
    }

    private static void fourToFive() {
        LeftAtFive x = new LeftAtFive();
        due("four", x.count(5), 0);
        due("59", x.pass(59), 59);
        due("five", x.pass(1), 60);
        due("beyond", x.pass(1), NO);
        due("five still", x.count(5), 60);
        due("an hour", new LeftAtFive().pass(60), 60);
    }

    private static void numberOfAMinute() {
        LeftAtFive x = laid(P + "s0,0,40;e0,0,1;e0,0,20;");
        due("minute 0 is none", x.house(0, 0, 0), 40);
        x.pass(1);
        due("the first one is 1", x.house(0, 0, 0), 39);
        x.pass(18);
        due("19 times one", x.house(0, 0, 0), 21);
        x.pass(1);
        due("in the 20th both", x.house(0, 0, 0), 19);
        x.pass(19);
        x.pass(20);
        due("hungry in the 40th, in the 59th not", x.eater(1, 1), 1);
        x.pass(1);
        due("the last one is 60", x.eater(1, 1), 2);
        due("60 meals or none", x.eater(0, 0) + x.eater(0, 1), 60);
    }

    private static void giftsFirst() {
        LeftAtFive x = laid("g1,0;h0;h1;s0,0,1;e1,0,1;");
        x.give(0, 1, 0, 1);
        x.pass(1);
        due("eaten in the minute in which it comes", x.eater(0, 0), 1);
        x = laid("g1,3;h0;h10;s0,0,1;e1,0,10;");
        x.give(0, 1, 0, 1);
        x.pass(10);
        due("gone in the minute in which it comes", x.house(1, 0, 0), 0);
        due("and nobody has eaten it", x.eater(0, 1), 1);
        x = laid("g1,3;h0;h10;s0,0,2;e1,0,10;");
        x.give(0, 1, 0, 2);
        x.pass(10);
        due("one is gone, one is eaten", x.eater(0, 0), 1);
        due("none is left", x.house(1, 0, 0), 0);
    }

    private static void spoiling() {
        LeftAtFive x = laid("g1,3;g1,0;g1,3;g1,1;g1,2;h0;h0;s0,0,7;s0,1,7;s0,2,1;s0,3,7;s0,4,7;s1,0,3;");
        x.pass(10);
        due("a piece of a spoiling one", x.house(0, 0, 0), 6);
        due("none of a solid one", x.house(0, 1, 0), 7);
        due("a piece of each such good, the last one", x.house(0, 2, 0), 0);
        due("none of a liquid one", x.house(0, 3, 0), 7);
        due("none of a sealed one", x.house(0, 4, 0), 7);
        due("in each house", x.house(1, 0, 0), 2);
        due("where there is none, none", x.house(1, 2, 0), 0);
        x.pass(10);
        due("none stays none", x.house(0, 2, 0), 0);
        x = laid("g1,3;h0;h25;s0,0,9;");
        x.give(0, 1, 0, 9);
        x.pass(25);
        due("on the way none is gone", x.house(1, 0, 0), 9);
        x.pass(5);
        due("there one is gone", x.house(1, 0, 0), 8);
    }

    private static void tenParts() {
        LeftAtFive x = laid("g1,3;h0;s0,0,9;");
        int[][] then = {{9, 9}, {10, 8}, {11, 8}, {19, 8}, {20, 7}, {21, 7}, {59, 4}, {60, 3}};
        for (int[] one : then) {
            x.pass(one[0] - x.count(5));
            due("minute " + one[0], x.house(0, 0, 0), one[1]);
        }
    }

    private static void eatersInOrder() {
        LeftAtFive x = laid(P + "s0,0,1;e0,0,3;e0,0,3;e0,0,3;");
        x.pass(3);
        due("0 has it", x.eater(0, 0), 1);
        due("1 is hungry", x.eater(1, 1), 1);
        due("2 is hungry", x.eater(2, 1), 1);
        x = laid(P + "s0,0,2;e0,0,6;e0,0,3;e0,0,2;");
        x.pass(6);
        due("in minute 2 only 2", x.eater(2, 0), 1);
        due("in minute 3 only 1", x.eater(1, 0), 1);
        due("in minute 6 none is there for 0", x.eater(0, 1), 1);
    }

    private static void eatOrHungry() {
        LeftAtFive x = laid("g1,0;g1,0;h0;h0;s0,0,1;s0,1,9;s1,0,9;e0,0,4;");
        x.pass(3);
        due("R does not part it", x.eater(0, 0), 0);
        x.pass(1);
        due("the last piece", x.eater(0, 0), 1);
        due("not hungry", x.eater(0, 1), 0);
        due("none is left", x.house(0, 0, 0), 0);
        x.pass(4);
        due("no more", x.eater(0, 0), 1);
        due("hungry once", x.eater(0, 1), 1);
        x.pass(4);
        due("hungry once more", x.eater(0, 1), 2);
        due("none goes below none", x.house(0, 0, 0), 0);
        due("another good stays", x.house(0, 1, 0), 9);
        due("another house's stays", x.house(1, 0, 0), 9);
    }

    private static void outAtOnce() {
        LeftAtFive x = laid("g1,0;g1,0;h0;h9;s0,0,40;s0,1,5;");
        x.give(0, 1, 0, 39);
        due("39 are out at once", x.house(0, 0, 0), 1);
        due("not there", x.house(1, 0, 0), 0);
        x.give(0, 1, 0, 1);
        due("all are out", x.house(0, 0, 0), 0);
        due("of that good only", x.house(0, 1, 0), 5);
        x.pass(8);
        due("not yet there", x.house(1, 0, 0), 0);
        x.pass(1);
        due("there", x.house(1, 0, 0), 40);
        due("and not in the one", x.house(0, 0, 0), 0);
    }

    private static void cellsBetween() {
        LeftAtFive x = laid("g1,0;h0;h1;h60;s0,0,9;s2,0,9;");
        due("one cell", x.give(0, 1, 0, 1), 1);
        due("sixty cells", x.give(0, 2, 0, 2), 60);
        due("the other way", x.give(2, 1, 0, 3), 59);
        x.pass(59);
        due("the next minute", x.house(1, 0, 0), 1 + 3);
        due("not yet", x.house(2, 0, 0), 6);
        due("at five", x.give(0, 1, 0, 4), 60);
        due("behind five", x.give(0, 2, 0, 1), 119);
        x.pass(1);
        due("at five it is there", x.house(2, 0, 0), 8);
        due("at five it is there", x.house(1, 0, 0), 8);
        due("the other one is on the way", x.way(0, 3), 119);
    }

    private static void sameCell() {
        LeftAtFive x = laid("g1,0;h7;h7;h8;s0,0,9;s2,0,9;");
        due("at once", x.give(0, 1, 0, 4), 0);
        due("it is there", x.house(1, 0, 0), 4);
        due("it is there no more", x.house(0, 0, 0), 5);
        due("not on the way", x.count(6), 0);
        due("not on the way", x.way(0, 0), BAD);
        x.pass(59);
        due("a minute ahead of five", x.give(1, 0, 0, 4), 59);
        due("it is there", x.house(0, 0, 0), 9);
        for (int i = 0; i < 6; i++) {
            x.give(2, 0, 0, 1);
        }
        due("beside six on the way", x.give(0, 1, 0, 9), 59);
        due("six still", x.count(6), 6);
        due("next door is not the same", x.give(2, 0, 0, 1), FULL);
    }

    private static void sixOnTheWayAtMost() {
        LeftAtFive x = sixComing();
        due("six", x.count(6), 6);
        refused("the seventh", TermEdges::sixComing, y -> y.give(0, 1, 0, 1), FULL);
        refused("the seventh, from another house", TermEdges::sixComing, y -> y.give(1, 0, 0, 1), FULL);
        x.pass(1);
        due("one is there", x.count(6), 5);
        due("another one", x.give(0, 1, 0, 1), 4);
        due("six again", x.count(6), 6);
        due("no more", x.give(0, 1, 0, 1), FULL);
    }

    /** One comes in minute 1, five in minute 3. */
    private static LeftAtFive sixComing() {
        LeftAtFive x = laid("g1,0;h0;h3;h1;s0,0,40;s1,0,5;");
        x.give(0, 2, 0, 1);
        for (int i = 0; i < 5; i++) {
            due("one more on the way", x.give(0, 1, 0, 2), 3);
        }
        return x;
    }

    private static void behindFiveAsWell() {
        LeftAtFive x = sixOnTheWay();
        due("behind five", x.way(5, 3), 61);
        refused("the seventh", Edges::sixOnTheWay, y -> y.give(0, 1, 0, 1), FULL);
        x.pass(59);
        due("six still at five", x.count(6), 6);
        due("none of them is there", x.house(1, 0, 0), 0);
    }

    private static void thrown() {
        LeftAtFive x = laid("g1,0;g1,0;h0;h0;s0,0,9;s0,1,9;s1,0,9;");
        x.toss(0, 0, 9);
        due("they are gone", x.house(0, 0, 0), 0);
        due("not of another good", x.house(0, 1, 0), 9);
        due("not of another house", x.house(1, 0, 0), 9);
        due("not on the way", x.count(6), 0);
    }

    private static void nothingBehindFive() {
        refused("pass(1)", Edges::busyAtFive, x -> x.pass(1), NO);
        refused("pass(60)", Edges::busyAtFive, x -> x.pass(60), NO);
        refused("give(1, 0, 3, 1)", Edges::busyAtFive, x -> x.give(1, 0, 3, 1), NO);
        refused("toss(1, 3, 1)", Edges::busyAtFive, x -> x.toss(1, 3, 1), NO);
        refused("give at the same cell", () -> after(laid("g1,0;h5;h5;s0,0,5;"), 60), x -> x.give(0, 1, 0, 1), NO);
        LeftAtFive x = after(new LeftAtFive(), 59);
        due("a minute ahead: give", x.give(1, 0, 3, 1), 69);
        due("a minute ahead: toss", x.toss(1, 3, 1), 5);
        due("a minute ahead: pass", x.pass(1), 60);
        due("at five: keep", x.keep(), 1);
        due("at five: undo", x.undo(), 3);
        due("back at five", x.back(), 0);
        due("at five again", x.count(5), 60);
        write(x, "g1,0;h0;");
        due("at five: lay", x.lay(), 1);
        due("four again", x.pass(1), 1);
    }

    private static void latestUndone() {
        LeftAtFive x = new LeftAtFive();
        x.pass(12);
        x.pass(1);
        x.give(0, 1, 0, 5);
        x.toss(0, 1, 7);
        x.pass(47);
        due("all 47 minutes at once", x.undo(), 4);
        due("minute 13", x.count(5), 13);
        due("what is thrown", x.undo(), 3);
        due("is there again", x.house(0, 1, 0), 7);
        due("the gift", x.undo(), 2);
        due("is there again", x.house(0, 0, 0), 9);
        due("and not on the way", x.count(6), 0);
        due("a minute", x.undo(), 1);
        due("minute 12", x.count(5), 12);
        due("twelve minutes", x.undo(), 0);
        due("minute 0", x.count(5), 0);
        due("eaten is as it was", x.eater(1, 0), 0);
        due("hungry is as it was", x.eater(3, 1), 0);
        // Neither letters nor what is kept is undone.
        x.write('g');
        x.keep();
        due("nothing to undo", x.undo(), NO);
        x.pass(1);
        x.write('g');
        x.keep();
        x.undo();
        due("letters stay", x.count(9), 2);
        due("what is kept stays", x.count(8), 2);
    }

    private static void lastEight() {
        LeftAtFive x = new LeftAtFive();
        for (int i = 1; i <= 8; i++) {
            x.pass(1);
            due("so many can be", x.count(7), i);
        }
        LeftAtFive y = new LeftAtFive();
        for (int i = 0; i < 8; i++) {
            y.pass(1);
        }
        for (int left = 7; left >= 0; left--) {
            due("eight done", y.undo(), left);
        }
        due("all eight are undone", y.count(5), 0);
        x.give(0, 1, 0, 1);
        due("eight at most", x.count(7), 8);
        x.toss(0, 0, 1);
        due("eight at most", x.count(7), 8);
        int[] pieces = {8, 9, 9, 9, 9, 9, 9, 9};
        int[] minutes = {8, 8, 7, 6, 5, 4, 3, 2};
        for (int left = 7; left >= 0; left--) {
            due("ten done", x.undo(), left);
            due("then it is minute", x.count(5), minutes[7 - left]);
            due("then so many pieces are there", x.house(0, 0, 0), pieces[7 - left]);
        }
        due("the first two minutes are not undone", x.undo(), NO);
        due("the first two minutes are not undone", x.count(5), 2);
    }

    private static void leftAll() {
        LeftAtFive x = laid("g1,0;g1,3;h0;s0,0,40;s0,1,40;");
        due("solid", x.house(0, 0, 1), 40);
        due("spoiling", x.house(0, 1, 1), 40);
        due("solid, none", laid(P).house(0, 0, 1), 0);
        x.toss(0, 0, 39);
        x.toss(0, 1, 39);
        due("solid, one", x.house(0, 0, 1), 1);
        due("spoiling, one", x.house(0, 1, 1), 1);
    }

    private static void leftHalf() {
        int[] halves = {0, 0, 1, 1, 2, 2};
        for (int n = 0; n <= 5; n++) {
            LeftAtFive x = laid("g1,1;h0;s0,0," + n + ";");
            due("of " + n + " now", x.house(0, 0, 1), halves[n]);
            due("of " + n + " at five", x.house(0, 0, 2), halves[n]);
            due("of " + n + " all are there", x.house(0, 0, 0), n);
        }
        due("of 40", laid("g1,1;h0;s0,0,40;").house(0, 0, 1), 20);
        due("house by house", laid("g9,1;h0;h0;s0,0,3;s1,0,3;").taken(-1), 18);
        due("one in each of five", laid("g9,1;h0;h0;h0;h0;h0;s0,0,1;s1,0,1;s2,0,1;s3,0,1;s4,0,1;").taken(-1), 0);
        due("goods are cut one by one", laid("g9,1;g9,1;h0;s0,0,1;s0,1,1;").taken(0), 0);
    }

    private static void leftNone() {
        LeftAtFive x = laid("g9,2;h0;h60;s0,0,40;");
        due("sealed now", x.house(0, 0, 1), 0);
        due("sealed at five", x.house(0, 0, 2), 0);
        due("sealed", x.taken(-1), 0);
        due("they are there", x.house(0, 0, 0), 40);
        x = laid("g9,0;h0;h60;s0,0,40;");
        x.pass(1);
        x.give(0, 1, 0, 40);
        due("on the way at five", x.house(1, 0, 2), 0);
        due("on the way at five", x.taken(-1), 0);
        x = laid("g9,0;h0;h60;s0,0,40;");
        x.give(0, 1, 0, 40);
        due("on the way now", x.house(0, 0, 1) + x.house(1, 0, 1), 0);
        due("there at five", x.house(1, 0, 2), 40);
        due("there at five", x.taken(1), 360);
    }

    private static void takenAtFive() {
        LeftAtFive x = laid("g3,0;g2,3;h0;s0,0,9;s0,1,9;e0,0,20;");
        due("three are eaten", x.house(0, 0, 2), 6);
        due("six are gone", x.house(0, 1, 2), 3);
        due("by worth", x.taken(0), 3 * 6 + 2 * 3);
        x.pass(59);
        due("a minute ahead of five", x.taken(0), 24);
        due("now one more is there", x.house(0, 0, 1), 7);
        x.pass(1);
        due("at five", x.taken(0), 24);
        due("at five as now", x.house(0, 0, 1), 6);
    }
}
