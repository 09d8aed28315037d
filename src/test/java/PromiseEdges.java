import java.util.List;

/** Promises 1 to 26: the bounds of each call's numbers at both ends, nothing there, all places full, refused calls. */
final class PromiseEdges extends Edges {
    private static final String P = "g1,0;h0;";

    static void all() {
        kitchens();
        anHour();
        whatWillBe();
        shops();
        kept();
    }

    private static void kitchens() {
        test("What it is", "An object is used for at most 512 calls after it has been made;", PromiseEdges::calls512);
        test("The public face", "public static final int BAD = -1, NO = -2, FULL = -3, NONE = -4;", PromiseEdges::constants);
        test("Promise 1", "LeftAtFive(): As told.", PromiseEdges::asTold);
        String p = "Promise 2";
        test(p, "A letter (32 to 126, as in ASCII)", PromiseEdges::writeLetters);
        test(p, "comes behind THE TEXT: how long it is.", PromiseEdges::writeBehind);
        test(p, "how long it is. BAD; FULL.", PromiseEdges::writeRefused);
        p = "Promise 3";
        test(p, "THE TEXT is empty: how long it was.", PromiseEdges::wipeLength);
        p = "Promise 4";
        test(p, "FAULT. NONE.", PromiseEdges::faultNone);
        p = "Promise 5";
        test(p, "LAID: how many HOUSES;", PromiseEdges::layHouses);
        test(p, "minute 0, no GIFTS, nothing UNDONE, KEPT (THE TEXT stays).", PromiseEdges::layAnew);
        test(p, "(THE TEXT stays). NO.", PromiseEdges::layRefused);
        p = "Promise 6";
        test(p, "Of a HOUSE: pieces of a GOOD now (what = 0), how many of these would be LEFT now (1), how many are TAKEN (2).",
                PromiseEdges::houseWhats);
        test(p, "how many are TAKEN (2). BAD.", PromiseEdges::houseRefused);
        p = "Promise 7";
        test(p, "Of an EATER: pieces eaten (what = 0), how often HUNGRY (1), how often he will be in all by five (2).",
                PromiseEdges::eaterWhats);
        test(p, "in all by five (2). BAD.", PromiseEdges::eaterRefused);
        p = "Promise 8";
        test(p, "GIFT k on the way (in order of GIFTS told):", PromiseEdges::wayOrder);
        test(p, "HOUSE (what = 0), GOOD (1), pieces (2), the minute (3).", PromiseEdges::wayWhats);
        test(p, "the minute (3). BAD.", PromiseEdges::wayRefused);
    }

    private static void anHour() {
        String p = "Promise 9";
        test(p, "n MINUTES (1 to 60) go by: which minute it is.", PromiseEdges::passMinutes);
        test(p, "which minute it is. BAD;", PromiseEdges::passBad);
        test(p, "BAD; NO: beyond five.", PromiseEdges::passBeyond);
        p = "Promise 10";
        test(p, "A GIFT of n (1 to 40) pieces: the minute in which it comes.", PromiseEdges::givePieces);
        test(p, "BAD (to itself, too);", PromiseEdges::giveBad);
        test(p, "NO: not so many", PromiseEdges::giveNotSoMany);
        test(p, "it is five;", PromiseEdges::giveAtFive);
        test(p, "it is five; FULL.", PromiseEdges::giveFull);
        p = "Promise 11";
        test(p, "n (1 to 40) pieces are THROWN away: how many are left there.", PromiseEdges::tossPieces);
        test(p, "how many are left there. BAD;", PromiseEdges::tossBad);
        test(p, "NO: not so many", PromiseEdges::tossNotSoMany);
        test(p, "it is five.", PromiseEdges::tossAtFive);
        p = "Promise 12";
        test(p, "UNDONE: how many more can be.", PromiseEdges::undoMore);
        test(p, "how many more can be. NO.", PromiseEdges::undoNothing);
    }

    private static void whatWillBe() {
        test("Promise 13", "What is TAKEN is worth: of a HOUSE, of all (h = -1).", PromiseEdges::takenWorth);
        test("Promise 13", "of all (h = -1). BAD.", PromiseEdges::takenBad);
        test("Promise 14", "FIRST: the minute (what = 0), who (1).", PromiseEdges::firstWhats);
        test("Promise 14", "NONE; BAD.", PromiseEdges::firstRefused);
        test("Promise 15", "GIFT: which (what = 0), as much (1).", PromiseEdges::giftWhats);
        test("Promise 15", "NONE; BAD.", PromiseEdges::giftRefused);
        test("Promise 16", "CARRIED. BAD.", PromiseEdges::carriedBad);
        test("Promise 17", "ROUND: the most (what = 0), how far (1).", PromiseEdges::roundWhats);
        test("Promise 17", "how far (1). BAD.", PromiseEdges::roundBad);
    }

    private static void shops() {
        test("Promise 18", "BAKE: q (what = 0), what it costs: above (1), below (2).", PromiseEdges::bakeWhats);
        test("Promise 18", "NONE; BAD.", PromiseEdges::bakeRefused);
        test("Promise 19", "BUY: the minute (what = 0), what it brings, and 1000: above (1), below (2).", PromiseEdges::buyWhats);
        test("Promise 19", "below (2). BAD.", PromiseEdges::buyBad);
        test("Promise 20", "SOUP: as much (k = -1), how often RECIPE k is made.", PromiseEdges::soupRecipes);
        test("Promise 20", "is made. BAD.", PromiseEdges::soupBad);
        test("Promise 21", "GAVE: how many (what = 0), the lowest (1; NONE).", PromiseEdges::gaveWhats);
        test("Promise 21", "(1; NONE). BAD.", PromiseEdges::gaveBad);
        test("Promise 22", "PEA. BAD.", PromiseEdges::peaBad);
        test("Promise 23", "AN EVENING: worth (what = 0), HUNGRY (1).", PromiseEdges::eveningWhats);
        test("Promise 23", "HUNGRY (1). BAD.", PromiseEdges::eveningBad);
    }

    private static void kept() {
        test("Promise 24", "KEPT: how many.", PromiseEdges::keepMany);
        test("Promise 24", "how many. FULL.", PromiseEdges::keepFull);
        test("Promise 25", "As KEPT last (it is KEPT no more then): how many are left;", PromiseEdges::backLast);
        test("Promise 25", "nothing is UNDONE then.", PromiseEdges::backNothingUndone);
        test("Promise 25", "nothing is UNDONE then. NO.", PromiseEdges::backNone);
        test("Promise 26", "How many: 0 GOODS, 1 HOUSES, 2 EATERS, 3 DEMANDS, 4 RECIPES, 5 the minute, 6 GIFTS on the way,"
                + " 7 that can be UNDONE, 8 KEPT, 9 letters of THE TEXT.", PromiseEdges::countWhats);
        test("Promise 26", "9 letters of THE TEXT. BAD.", PromiseEdges::countBad);
    }

    private static LeftAtFive atFive() {
        return after(new LeftAtFive(), 60);
    }

    private static void calls512() {
        LeftAtFive x = new LeftAtFive();
        for (int i = 0; i < 170; i++) {
            due("pass", x.pass(1 + i % 60), 1 + i % 60);
            due("gift", x.gift(0) == 0 ? 0 : 1, 1);
            due("undo", x.undo(), 0);
        }
        due("the 511th call", x.taken(-1), 33);
        due("the 512th call", x.count(5), 0);
    }

    private static void constants() {
        due("BAD", LeftAtFive.BAD, -1);
        due("NO", LeftAtFive.NO, -2);
        due("FULL", LeftAtFive.FULL, -3);
        due("NONE", LeftAtFive.NONE, -4);
    }

    private static void asTold() {
        LeftAtFive x = new LeftAtFive();
        int[] told = {4, 3, 4, 3, 2, 0, 0, 0, 0, 0};
        for (int what = 0; what <= 9; what++) {
            due("count(" + what + ")", x.count(what), told[what]);
        }
        due("the text is empty", x.fault(), NONE);
        due("the text is empty", x.lay(), NO);
        due("the text is empty", x.wipe(), 0);
        due("nothing to undo", x.undo(), NO);
        due("nothing is kept", x.back(), NO);
        due("nothing is on the way", x.way(0, 0), BAD);
        due("nothing is eaten", x.eater(0, 0) + x.eater(1, 0) + x.eater(2, 0) + x.eater(3, 0), 0);
        due("nobody is hungry", x.eater(0, 1) + x.eater(1, 1) + x.eater(2, 1) + x.eater(3, 1), 0);
        due("it is taken", x.taken(-1), 33);
        LeftAtFive y = new LeftAtFive();
        y.pass(60);
        due("another object is another one", x.count(5), 0);
    }

    private static void writeLetters() {
        LeftAtFive x = new LeftAtFive();
        for (int letter = 32; letter <= 126; letter++) {
            due("write(" + letter + ")", x.write(letter), letter - 31);
        }
        for (int letter : new int[] {31, 127, 0, -1, 10, 128, 255, 256 + 65, 65536 + 65, -65536 + 65, LOW, HIGH}) {
            refused("write(" + letter + ")", Edges::busy, y -> y.write(letter), BAD);
        }
    }

    private static void writeBehind() {
        LeftAtFive x = new LeftAtFive();
        String text = "g2,0;h7;s0,0,9;";
        for (int i = 0; i < text.length(); i++) {
            due("letter " + i, x.write(text.charAt(i)), i + 1);
        }
        due("in order", x.lay(), 1);
        due("in order", x.taken(0), 18);
        due("behind what is laid, too", x.write('h'), 16);
        due("what is laid stays", x.count(1), 1);
    }

    private static void writeRefused() {
        String almost = times(199, "a");
        LeftAtFive x = written(almost);
        due("the 200th letter", x.write(126), 200);
        refused("the 201st letter", () -> written(almost + "a"), y -> y.write(126), FULL);
        refused("the 201st letter", () -> written(almost + "a"), y -> y.write(32), FULL);
        refused("none of the letters, behind 200", () -> written(almost + "a"), y -> y.write(31), BAD);
        refused("none of the letters, behind 200", () -> written(almost + "a"), y -> y.write(127), BAD);
        due("FULL", x.write('b'), FULL);
        due("FULL again", x.write('b'), FULL);
        due("wipe", x.wipe(), 200);
        due("the first one again", x.write('b'), 1);
    }

    private static void wipeLength() {
        LeftAtFive x = new LeftAtFive();
        due("empty", x.wipe(), 0);
        x.write('g');
        due("one", x.wipe(), 1);
        due("empty again", x.wipe(), 0);
        write(x, times(200, "h"));
        due("full", x.wipe(), 200);
        due("empty", x.count(9), 0);
        due("no fault", x.fault(), NONE);
        due("nothing to lay", x.lay(), NO);
        write(x, P);
        due("lay", x.lay(), 1);
        x.wipe();
        due("what is laid stays", x.count(1), 1);
        LeftAtFive busy = busy();
        busy.wipe();
        write(busy, "g1,0;h0;q");
        alike("wiped and written again", undone(busy), undone(busy()));
    }

    private static void faultNone() {
        due("empty", new LeftAtFive().fault(), NONE);
        due("one letter", written("g").fault(), 0);
        due("no fault", written(FIRST).fault(), NONE);
        due("behind all", written(FIRST + "g").fault(), FIRST.length());
        LeftAtFive x = written("g1,0;");
        due("asked twice", x.fault(), NONE);
        due("asked twice", x.fault(), NONE);
        write(x, "h");
        due("not ended", x.fault(), 5);
        write(x, "0;");
        due("ended", x.fault(), NONE);
        asks("fault()", Edges::busy, LeftAtFive::fault, 8);
    }

    private static void layHouses() {
        for (int houses = 1; houses <= 5; houses++) {
            due(houses + " houses", written("g1,0;" + times(houses, "h0;")).lay(), houses);
        }
        due("none", written("g1,0;").lay(), NO);
        due("six", written("g1,0;" + times(6, "h0;")).lay(), NO);
    }

    private static void layAnew() {
        LeftAtFive x = busy();
        x.keep();
        x.wipe();
        write(x, FIRST);
        due("lay", x.lay(), 3);
        LeftAtFive y = written(FIRST);
        y.lay();
        alike("all is new", asked(x), asked(y));
        x.lay();
        y.lay();
        alike("nothing to undo", undone(x), undone(y));
        due("nothing is kept", x.back(), NO);
        due("the text stays", x.count(9), FIRST.length());
        due("the text stays", x.fault(), NONE);
        due("at five", after(x, 60).lay(), 3);
        due("four again", x.count(5), 0);
        noneOfTheOldStreet("g2,0;g1,0;h0;h1;");
        noneOfTheOldStreet("g2,0;g1,0;h0;h1;s0,0,9;s1,1,2;e1,1,7;d9,10;k0,1,2;");
        noneOfTheOldStreet(times(5, "g9,3;") + times(5, "h60;") + "s4,4,9;" + times(7, "e4,4,1;") + times(4, "d2,0;")
                + "d1,10;" + times(2, "k4,4,9;"));
    }

    /** Two full streets are laid ahead of it: what they had and this one has not is there no more. */
    private static void noneOfTheOldStreet(String text) {
        String full = times(5, "g1,0;") + times(5, "h0;") + "s0,0,40;s4,4,40;" + times(8, "e0,0,1;") + times(5, "d20,2;")
                + times(3, "k0,0,1;");
        LeftAtFive x = laid(full);
        x.lay();
        x.wipe();
        write(x, text);
        int houses = x.lay();
        due("lay", x.lay(), houses);
        LeftAtFive y = laid(text);
        alike("laid behind a full street: " + text, asked(x), asked(y));
        due("pass", x.pass(60), y.pass(60));
        alike("laid behind a full street, at five: " + text, asked(x), asked(y));
    }

    private static void layRefused() {
        for (String text : new String[] {"", "g1,0;", "h0;", P + "q", P + "d1,9;", P + "d1,6;d1,5;"}) {
            refused("lay() of " + text, () -> {
                LeftAtFive x = busy();
                x.wipe();
                write(x, text);
                return x;
            }, LeftAtFive::lay, NO);
        }
        due("ten of ten", written(P + "d1,10;").lay(), 1);
        refused("lay() at five", Edges::busyAtFive, LeftAtFive::lay, NO);
    }

    private static void houseWhats() {
        LeftAtFive x = new LeftAtFive();
        int[][] due = {{7, 3, 3}, {9, 9, 5}};
        for (int what = 0; what <= 2; what++) {
            due("a liquid one, " + what, x.house(0, 1, what), due[0][what]);
            due("a solid one, " + what, x.house(0, 0, what), due[1][what]);
            due("none, " + what, x.house(1, 0, what), 0);
        }
        x.pass(60);
        due("at five, now", x.house(0, 0, 0), 5);
        due("at five, left now", x.house(0, 0, 1), 5);
        due("at five, taken", x.house(0, 0, 2), 5);
        // Eight are there in minute 12, one is gone in each of 20, 30, 40, 50 and 60.
        asks("house(1, 3, 2)", Edges::busy, y -> y.house(1, 3, 2), 3);
    }

    private static void houseRefused() {
        for (int n : outside(0, 2)) {
            refused("house(" + n + ", 0, 0)", Edges::busy, x -> x.house(n, 0, 0), BAD);
            refused("house(0, 0, " + n + ")", Edges::busy, x -> x.house(0, 0, n), BAD);
        }
        for (int n : outside(0, 3)) {
            refused("house(0, " + n + ", 0)", Edges::busy, x -> x.house(0, n, 0), BAD);
        }
        LeftAtFive x = new LeftAtFive();
        due("the last ones", x.house(2, 3, 2), 0);
        due("the first ones", x.house(0, 0, 0), 9);
        x = laid("g1,0;g1,0;g1,0;g1,0;g1,0;h0;h0;h0;h0;h0;s4,4,40;");
        due("of five", x.house(4, 4, 2), 40);
        due("of five", x.house(5, 4, 0), BAD);
        due("of five", x.house(4, 5, 0), BAD);
        x = laid(P);
        due("of one", x.house(0, 0, 2), 0);
        due("of one", x.house(1, 0, 0), BAD);
        due("of one", x.house(0, 1, 0), BAD);
    }

    private static void eaterWhats() {
        LeftAtFive x = new LeftAtFive();
        int[] due = {0, 0, 5};
        for (int what = 0; what <= 2; what++) {
            due("at minute 0: " + what, x.eater(1, what), due[what]);
        }
        x.give(0, 1, 0, 2);
        x.pass(60);
        due("eaten", x.eater(1, 0), 2);
        due("hungry", x.eater(1, 1), 3);
        due("in all, at five as now", x.eater(1, 2), 3);
        x.undo();
        x.pass(50);
        due("in all, those so far, too", x.eater(3, 1), 5);
        due("in all, those so far, too", x.eater(3, 2), 6);
        asks("eater(3, 2)", Edges::busy, y -> y.eater(3, 2), 6);
        due("never", laid(P + "s0,0,3;e0,0,20;").eater(0, 2), 0);
        due("ever", laid(P + "e0,0,1;").eater(0, 2), 60);
    }

    private static void eaterRefused() {
        for (int n : outside(0, 3)) {
            refused("eater(" + n + ", 0)", Edges::busy, x -> x.eater(n, 0), BAD);
        }
        for (int n : outside(0, 2)) {
            refused("eater(0, " + n + ")", Edges::busy, x -> x.eater(0, n), BAD);
        }
        LeftAtFive x = laid(P + times(8, "e0,0,20;"));
        due("the last of eight", x.eater(7, 2), 3);
        due("none behind eight", x.eater(8, 2), BAD);
        due("no eaters", laid(P).eater(0, 0), BAD);
        due("one eater", laid(P + "e0,0,20;").eater(0, 2), 3);
        due("one eater", laid(P + "e0,0,20;").eater(1, 2), BAD);
    }

    private static void wayOrder() {
        LeftAtFive x = laid("g1,0;h0;h9;h3;h9;s0,0,40;");
        x.give(0, 1, 0, 1);
        x.give(0, 2, 0, 2);
        x.give(0, 3, 0, 3);
        x.give(0, 2, 0, 4);
        x.pass(1);
        x.give(0, 2, 0, 5);
        int[] told = {1, 2, 3, 4, 5};
        for (int k = 0; k < 5; k++) {
            due("way " + k, x.way(k, 2), told[k]);
        }
        x.pass(2);
        int[] still = {1, 3, 5};
        for (int k = 0; k < 3; k++) {
            due("way " + k + " in minute 3", x.way(k, 2), still[k]);
        }
        due("no more", x.way(3, 2), BAD);
        x.give(0, 2, 0, 6);
        due("a new one behind them", x.way(3, 2), 6);
        x.pass(6);
        due("all are there", x.way(0, 2), BAD);
        due("all are there", x.house(1, 0, 0) + x.house(2, 0, 0) + x.house(3, 0, 0), 21);
    }

    private static void wayWhats() {
        LeftAtFive x = laid("g1,0;g1,0;g1,0;g1,0;g1,0;h60;h0;h0;h0;h1;s4,4,40;s0,0,1;");
        x.pass(3);
        x.give(4, 0, 4, 40);
        x.give(0, 1, 0, 1);
        int[][] due = {{0, 4, 40, 62}, {1, 0, 1, 63}};
        for (int k = 0; k < 2; k++) {
            for (int what = 0; what <= 3; what++) {
                due("way(" + k + ", " + what + ")", x.way(k, what), due[k][what]);
            }
        }
        asks("way(0, 3)", Edges::busy, y -> y.way(0, 3), 25);
    }

    private static void wayRefused() {
        due("none on the way", new LeftAtFive().way(0, 0), BAD);
        due("none on the way", new LeftAtFive().way(-1, 0), BAD);
        for (int n : outside(0, 1)) {
            refused("way(" + n + ", 0)", Edges::busy, x -> x.way(n, 0), BAD);
        }
        for (int n : outside(0, 3)) {
            refused("way(0, " + n + ")", Edges::busy, x -> x.way(0, n), BAD);
        }
        LeftAtFive x = sixOnTheWay();
        due("the last of six", x.way(5, 0), 1);
        due("none behind six", x.way(6, 0), BAD);
        x.undo();
        due("undone", x.way(5, 0), BAD);
    }

    private static void passMinutes() {
        for (int n : new int[] {1, 2, 59, 60}) {
            due("pass(" + n + ")", new LeftAtFive().pass(n), n);
        }
        LeftAtFive x = new LeftAtFive();
        for (int minute = 1; minute <= 60; minute++) {
            due("one behind the other", x.pass(1), minute);
        }
        LeftAtFive once = atFive();
        x.wipe();
        List<String> byOnes = asked(x);
        List<String> atOnce = asked(once);
        // Only how many can be undone is another number.
        byOnes.set(7, atOnce.get(7));
        alike("one by one, or all at once", byOnes, atOnce);
    }

    private static void passBad() {
        for (int n : outside(1, 60)) {
            refused("pass(" + n + ")", Edges::busy, x -> x.pass(n), BAD);
            refused("pass(" + n + ") at five", Edges::busyAtFive, x -> x.pass(n), BAD);
        }
    }

    private static void passBeyond() {
        refused("pass(60) in minute 1", () -> after(new LeftAtFive(), 1), x -> x.pass(60), NO);
        due("pass(59) in minute 1", after(new LeftAtFive(), 1).pass(59), 60);
        refused("pass(2) in minute 59", () -> after(new LeftAtFive(), 59), x -> x.pass(2), NO);
        due("pass(1) in minute 59", after(new LeftAtFive(), 59).pass(1), 60);
        refused("pass(1) at five", PromiseEdges::atFive, x -> x.pass(1), NO);
        refused("pass(49) in minute 12", Edges::busy, x -> x.pass(49), NO);
        due("pass(48) in minute 12", busy().pass(48), 60);
    }

    private static void givePieces() {
        LeftAtFive x = laid("g1,0;h0;h5;h0;s0,0,40;s1,0,40;");
        due("1", x.give(0, 1, 0, 1), 5);
        due("40", x.give(1, 0, 0, 40), 5);
        due("39", x.give(0, 2, 0, 39), 0);
        x.pass(5);
        due("all came", x.house(0, 0, 0), 40);
        due("all came", x.house(1, 0, 0), 1);
        x.give(2, 0, 0, 39);
        due("40 of 79", x.give(0, 1, 0, 40), 10);
        due("39 are there still", x.house(0, 0, 0), 39);
    }

    private static void giveBad() {
        for (int n : outside(0, 2)) {
            refused("give(" + n + ", 0, 0, 1)", Edges::busy, x -> x.give(n, 0, 0, 1), BAD);
            refused("give(0, " + n + ", 0, 1)", Edges::busy, x -> x.give(0, n, 0, 1), BAD);
        }
        for (int n : outside(0, 3)) {
            refused("give(0, 1, " + n + ", 1)", Edges::busy, x -> x.give(0, 1, n, 1), BAD);
        }
        for (int n : outside(1, 40)) {
            refused("give(0, 1, 0, " + n + ")", Edges::busy, x -> x.give(0, 1, 0, n), BAD);
            refused("give(0, 1, 0, " + n + ") at five", Edges::busyAtFive, x -> x.give(0, 1, 0, n), BAD);
        }
        for (int h = 0; h <= 2; h++) {
            int same = h;
            refused("give(" + h + ", " + h + ", 3, 1)", Edges::busy, x -> x.give(same, same, 3, 1), BAD);
        }
        refused("41 of 80", PromiseEdges::eighty, x -> x.give(0, 1, 0, 41), BAD);
        due("40 of 80", eighty().give(0, 1, 0, 40), 0);
        due("one house only", laid(P + "s0,0,5;").give(0, 0, 0, 1), BAD);
        LeftAtFive x = new LeftAtFive();
        due("the last ones", x.give(1, 2, 3, 12), 15);
        due("the first ones", x.give(2, 0, 0, 1), 25);
    }

    private static LeftAtFive eighty() {
        LeftAtFive x = laid("g1,0;h0;h0;s0,0,40;s1,0,40;");
        x.give(1, 0, 0, 40);
        return x;
    }

    private static void giveNotSoMany() {
        refused("8 of 7", Edges::busy, x -> x.give(0, 1, 0, 8), NO);
        refused("40 of 7", Edges::busy, x -> x.give(0, 1, 0, 40), NO);
        refused("1 of none", Edges::busy, x -> x.give(1, 0, 2, 1), NO);
        refused("1 of none at the same cell", () -> laid("g1,0;h0;h0;s1,0,1;"), x -> x.give(0, 1, 0, 1), NO);
        due("7 of 7", busy().give(0, 1, 0, 7), 22);
        due("1 of 1", laid("g1,0;h0;h9;s0,0,1;").give(0, 1, 0, 1), 9);
        due("what is on the way is not there", laidAndGiven().give(1, 0, 0, 1), NO);
    }

    private static LeftAtFive laidAndGiven() {
        LeftAtFive x = laid("g1,0;h0;h9;s0,0,1;");
        x.give(0, 1, 0, 1);
        return x;
    }

    private static void giveAtFive() {
        refused("at five", Edges::busyAtFive, x -> x.give(1, 0, 3, 1), NO);
        due("a minute ahead", after(new LeftAtFive(), 59).give(1, 0, 3, 1), 69);
        LeftAtFive x = atFive();
        due("at five", x.give(1, 0, 3, 1), NO);
        x.undo();
        due("four again", x.give(1, 0, 3, 1), 10);
    }

    private static void giveFull() {
        refused("the seventh", Edges::sixOnTheWay, x -> x.give(0, 1, 0, 1), FULL);
        refused("the seventh, all pieces", Edges::sixOnTheWay, x -> x.give(0, 1, 0, 34), FULL);
        refused("not so many", Edges::sixOnTheWay, x -> x.give(0, 1, 0, 35), NO);
        refused("to itself", Edges::sixOnTheWay, x -> x.give(0, 0, 0, 1), BAD);
        due("at the same cell", sixOnTheWay().give(0, 2, 0, 34), 1);
        LeftAtFive x = sixOnTheWay();
        x.undo();
        due("the sixth again", x.give(0, 1, 0, 1), 61);
        due("the seventh", x.give(0, 1, 0, 1), FULL);
    }

    private static void tossPieces() {
        LeftAtFive x = eighty();
        due("1 of 80", x.toss(0, 0, 1), 79);
        due("40 of 79", x.toss(0, 0, 40), 39);
        due("38 of 39", x.toss(0, 0, 38), 1);
        due("the last one", x.toss(0, 0, 1), 0);
        due("none is there", x.house(0, 0, 0), 0);
    }

    private static void tossBad() {
        for (int n : outside(0, 2)) {
            refused("toss(" + n + ", 3, 1)", Edges::busy, x -> x.toss(n, 3, 1), BAD);
        }
        for (int n : outside(0, 3)) {
            refused("toss(0, " + n + ", 1)", Edges::busy, x -> x.toss(0, n, 1), BAD);
        }
        for (int n : outside(1, 40)) {
            refused("toss(1, 3, " + n + ")", Edges::busy, x -> x.toss(1, 3, n), BAD);
            refused("toss(1, 3, " + n + ") at five", Edges::busyAtFive, x -> x.toss(1, 3, n), BAD);
        }
        refused("41 of 80", PromiseEdges::eighty, x -> x.toss(0, 0, 41), BAD);
        due("the last ones", new LeftAtFive().toss(2, 2, 3), 0);
    }

    private static void tossNotSoMany() {
        refused("8 of 7", Edges::busy, x -> x.toss(0, 0, 8), NO);
        refused("40 of 7", Edges::busy, x -> x.toss(0, 0, 40), NO);
        refused("1 of none", Edges::busy, x -> x.toss(1, 2, 1), NO);
        due("7 of 7", busy().toss(0, 0, 7), 0);
        due("what is on the way is not there", laidAndGiven().toss(1, 0, 1), NO);
    }

    private static void tossAtFive() {
        refused("at five", Edges::busyAtFive, x -> x.toss(1, 3, 1), NO);
        due("a minute ahead", after(new LeftAtFive(), 59).toss(1, 3, 1), 6);
    }

    private static void undoMore() {
        LeftAtFive x = busy();
        for (int left = 4; left >= 0; left--) {
            due("undo", x.undo(), left);
        }
        due("minute 0", x.count(5), 0);
        due("all pieces are there", x.house(0, 0, 0), 9);
        due("all pieces are there", x.house(0, 1, 0), 7);
        due("all pieces are there", x.house(1, 3, 0), 12);
        due("none is on the way", x.count(6), 0);
        x.pass(1);
        due("one", x.undo(), 0);
    }

    private static void undoNothing() {
        refused("undo()", LeftAtFive::new, LeftAtFive::undo, NO);
        refused("undo() behind lay()", () -> laid(P), LeftAtFive::undo, NO);
        refused("undo() behind all", () -> {
            LeftAtFive x = new LeftAtFive();
            for (int i = 0; i < 9; i++) {
                x.pass(1);
            }
            for (int i = 0; i < 8; i++) {
                x.undo();
            }
            return x;
        }, LeftAtFive::undo, NO);
        refused("undo() behind refused calls", () -> {
            LeftAtFive x = new LeftAtFive();
            x.pass(0);
            x.pass(61);
            x.give(0, 1, 0, 10);
            x.toss(0, 0, 10);
            x.give(0, 0, 0, 1);
            return x;
        }, LeftAtFive::undo, NO);
        refused("undo() behind back()", () -> {
            LeftAtFive x = busy();
            x.back();
            return x;
        }, LeftAtFive::undo, NO);
    }

    private static void takenWorth() {
        LeftAtFive x = new LeftAtFive();
        int[] due = {33, 21, 6, 6};
        for (int h = -1; h <= 2; h++) {
            due("taken(" + h + ")", x.taken(h), due[h + 1]);
        }
        due("nothing", laid(P).taken(-1), 0);
        due("nothing", laid(P).taken(0), 0);
        due("one house is all", laid(P + "s0,0,7;").taken(-1), 7);
        due("the last of five", laid("g1,0;h0;h0;h0;h0;h0;s4,0,7;").taken(4), 7);
        // Solid ones: three and two; liquid ones: two of four and one of three; spoiling ones: three.
        asks("taken(-1)", Edges::busy, y -> y.taken(-1), (3 + 2) * 3 + (2 + 1) * 2 + 3);
    }

    private static void takenBad() {
        for (int n : outside(-1, 2)) {
            refused("taken(" + n + ")", Edges::busy, x -> x.taken(n), BAD);
        }
        due("none behind five", laid("g1,0;h0;h0;h0;h0;h0;").taken(5), BAD);
        due("none behind one", laid(P).taken(1), BAD);
    }

    private static void firstWhats() {
        LeftAtFive x = new LeftAtFive();
        due("the minute", x.first(0), 10);
        due("who", x.first(1), 3);
        asks("first(0)", Edges::busy, y -> y.first(0), 20);
        asks("first(1)", Edges::busy, y -> y.first(1), 2);
    }

    private static void firstRefused() {
        asks("first(0) at five", Edges::busyAtFive, x -> x.first(0), NONE);
        asks("first(1) at five", Edges::busyAtFive, x -> x.first(1), NONE);
        for (int n : outside(0, 1)) {
            refused("first(" + n + ")", Edges::busy, x -> x.first(n), BAD);
            refused("first(" + n + ") at five", Edges::busyAtFive, x -> x.first(n), BAD);
        }
    }

    private static void giftWhats() {
        LeftAtFive x = new LeftAtFive();
        due("which", x.gift(0), 105);
        due("as much", x.gift(1), 18);
        asks("gift(0)", () -> after(laid("g4,0;h0;h60;s0,0,20;"), 1), y -> y.gift(0), 109);
        asks("gift(1)", () -> after(laid("g4,0;h0;h60;s0,0,20;"), 1), y -> y.gift(1), 44);
    }

    private static void giftRefused() {
        asks("gift(0) at five", Edges::busyAtFive, x -> x.gift(0), NONE);
        asks("gift(1) at five", Edges::busyAtFive, x -> x.gift(1), NONE);
        for (int n : outside(0, 1)) {
            refused("gift(" + n + ")", Edges::busy, x -> x.gift(n), BAD);
            refused("gift(" + n + ") at five", Edges::busyAtFive, x -> x.gift(n), BAD);
        }
    }

    private static void carriedBad() {
        for (int n : outside(0, 3)) {
            refused("carried(" + n + ", 0)", Edges::busy, x -> x.carried(n, 0), BAD);
        }
        for (int n : outside(0, 60)) {
            refused("carried(0, " + n + ")", Edges::busy, x -> x.carried(0, n), BAD);
        }
        LeftAtFive x = new LeftAtFive();
        due("the first good, the same cell", x.carried(0, 0), 0);
        due("the first good, all cells", x.carried(0, 60), 5);
        due("the last good, all cells", x.carried(3, 60), 6);
        // Three will be there, the eater 15 cells away is hungry five times more.
        asks("carried(3, 15)", Edges::busy, y -> y.carried(3, 15), 3);
        asks("carried(3, 14)", Edges::busy, y -> y.carried(3, 14), 0);
    }

    private static void roundWhats() {
        LeftAtFive x = new LeftAtFive();
        due("the most", x.round(10, 35, 0), 33);
        due("how far", x.round(10, 35, 1), 35);
        asks("round(10, 99, 0)", Edges::busy, y -> y.round(10, 99, 0), 24);
        asks("round(10, 99, 1)", Edges::busy, y -> y.round(10, 99, 1), 35);
    }

    private static void roundBad() {
        for (int n : outside(0, 60)) {
            refused("round(" + n + ", 0, 0)", Edges::busy, x -> x.round(n, 0, 0), BAD);
        }
        for (int n : outside(0, 99)) {
            refused("round(0, " + n + ", 0)", Edges::busy, x -> x.round(0, n, 0), BAD);
        }
        for (int n : outside(0, 1)) {
            refused("round(0, 0, " + n + ")", Edges::busy, x -> x.round(0, 0, n), BAD);
        }
        LeftAtFive x = new LeftAtFive();
        due("the first ones", x.round(0, 0, 0), 21);
        due("the last ones", x.round(60, 99, 1), 60);
    }

    private static void bakeWhats() {
        LeftAtFive x = new LeftAtFive();
        int[] due = {4, 9, 5};
        for (int what = 0; what <= 2; what++) {
            due("bake(1, 2, " + what + ")", x.bake(1, 2, what), due[what]);
        }
        int[] least = {0, 0, 1};
        for (int what = 0; what <= 2; what++) {
            due("bake(0, 0, " + what + ")", x.bake(0, 0, what), least[what]);
        }
        int[] most = {4, 54, 5};
        for (int what = 0; what <= 2; what++) {
            due("bake(9, 9, " + what + ")", x.bake(9, 9, what), most[what]);
        }
        asks("bake(1, 2, 1)", Edges::busy, y -> y.bake(1, 2, 1), 9);
    }

    private static void bakeRefused() {
        for (int n : outside(0, 9)) {
            refused("bake(" + n + ", 1, 0)", Edges::busy, x -> x.bake(n, 1, 0), BAD);
            refused("bake(1, " + n + ", 0)", Edges::busy, x -> x.bake(1, n, 0), BAD);
            due("no demands: bake(" + n + ", 1, 0)", laid(P).bake(n, 1, 0), BAD);
            due("no demands: bake(1, " + n + ", 0)", laid(P).bake(1, n, 0), BAD);
        }
        for (int n : outside(0, 2)) {
            refused("bake(1, 1, " + n + ")", Edges::busy, x -> x.bake(1, 1, n), BAD);
            due("no demands: bake(1, 1, " + n + ")", laid(P).bake(1, 1, n), BAD);
        }
        for (int what = 0; what <= 2; what++) {
            int asked = what;
            asks("no demands: bake(1, 1, " + what + ")", () -> laid(P + "s0,0,9;"), x -> x.bake(1, 1, asked), NONE);
        }
        due("demands by none of ten are no demands' want", laid(P + "d9,0;d0,10;").bake(1, 1, 0), 0);
    }

    private static void buyWhats() {
        LeftAtFive x = new LeftAtFive();
        long[] due = {5, 20531441L, 20000L};
        for (int what = 0; what <= 2; what++) {
            due("buy(50, 30, 5, 1, " + what + ")", x.buy(50, 30, 5, 1, what), due[what]);
        }
        long[] least = {0, 1000, 1};
        for (int what = 0; what <= 2; what++) {
            due("buy(0, 0, 0, 0, " + what + ")", x.buy(0, 0, 0, 0, what), least[what]);
        }
        long[] most = {0, 1000, 1};
        for (int what = 0; what <= 2; what++) {
            due("buy(99, 99, 9, 10, " + what + ")", x.buy(99, 99, 9, 10, what), most[what]);
        }
        asks("buy(50, 30, 5, 1, 1)", Edges::busy, y -> y.buy(50, 30, 5, 1, 1), 20531441L);
    }

    private static void buyBad() {
        for (int n : outside(0, 99)) {
            refused("buy(" + n + ", 1, 1, 1, 0)", Edges::busy, x -> x.buy(n, 1, 1, 1, 0), BAD);
            refused("buy(1, " + n + ", 1, 1, 0)", Edges::busy, x -> x.buy(1, n, 1, 1, 0), BAD);
        }
        for (int n : outside(0, 9)) {
            refused("buy(1, 1, " + n + ", 1, 0)", Edges::busy, x -> x.buy(1, 1, n, 1, 0), BAD);
        }
        for (int n : outside(0, 10)) {
            refused("buy(1, 1, 1, " + n + ", 0)", Edges::busy, x -> x.buy(1, 1, 1, n, 0), BAD);
        }
        for (int n : outside(0, 2)) {
            refused("buy(1, 1, 1, 1, " + n + ")", Edges::busy, x -> x.buy(1, 1, 1, 1, n), BAD);
        }
    }

    private static void soupRecipes() {
        LeftAtFive x = new LeftAtFive();
        int[] due = {44, 3, 4};
        for (int k = -1; k <= 1; k++) {
            due("soup(" + k + ")", x.soup(k), due[k + 1]);
        }
        x = laid(P + "s0,0,9;");
        due("no recipes", x.soup(-1), 0);
        x = laid(P + "s0,0,9;k0,0,1;k0,0,2;k0,0,3;");
        int[] last = {12, 0, 0, 4};
        for (int k = -1; k <= 2; k++) {
            due("the last one of three: soup(" + k + ")", x.soup(k), last[k + 1]);
        }
        // Five solid, three liquid, three spoiling ones are taken.
        asks("soup(-1)", Edges::busy, y -> y.soup(-1), 3 * 8 + 2 * 5);
    }

    private static void soupBad() {
        for (int n : outside(-1, 1)) {
            refused("soup(" + n + ")", Edges::busy, x -> x.soup(n), BAD);
        }
        due("no recipes", laid(P).soup(0), BAD);
        due("three recipes", laid(P + "k0,0,1;k0,0,1;k0,0,1;").soup(3), BAD);
        due("three recipes", laid(P + "k0,0,1;k0,0,1;k0,0,1;").soup(2), 0);
    }

    private static void gaveWhats() {
        LeftAtFive x = new LeftAtFive();
        due("how many", x.gave(27, 0), 2);
        due("the lowest", x.gave(27, 1), 3);
        due("how many: none", x.gave(1, 0), 0);
        due("the lowest: none", x.gave(1, 1), NONE);
        due("v 0: how many", x.gave(0, 0), 1);
        due("v 0: the lowest", x.gave(0, 1), 0);
        due("v 9999: how many", x.gave(9999, 0), 0);
        asks("gave(9999, 1)", Edges::busy, y -> y.gave(9999, 1), NONE);
        asks("gave(0, 0)", Edges::busy, y -> y.gave(0, 0), 1);
    }

    private static void gaveBad() {
        for (int n : outside(0, 9999)) {
            refused("gave(" + n + ", 0)", Edges::busy, x -> x.gave(n, 0), BAD);
            refused("gave(" + n + ", 1)", Edges::busy, x -> x.gave(n, 1), BAD);
        }
        for (int n : outside(0, 1)) {
            refused("gave(27, " + n + ")", Edges::busy, x -> x.gave(27, n), BAD);
            refused("gave(9999, " + n + ")", Edges::busy, x -> x.gave(9999, n), BAD);
        }
    }

    private static void peaBad() {
        for (int n : outside(1, 99)) {
            refused("pea(" + n + ", 1)", Edges::busy, x -> x.pea(n, 1), BAD);
            refused("pea(" + n + ", 9)", Edges::busy, x -> x.pea(n, 9), BAD);
        }
        for (int n : outside(1, 9)) {
            refused("pea(1, " + n + ")", Edges::busy, x -> x.pea(1, n), BAD);
            refused("pea(99, " + n + ")", Edges::busy, x -> x.pea(99, n), BAD);
        }
        LeftAtFive x = new LeftAtFive();
        due("the first ones", x.pea(1, 1), 1);
        due("more can be eaten than are there", x.pea(1, 9), 1);
        due("99 by ones", x.pea(99, 1), 1);
        // What was asked before is forgotten.
        due("of many", x.pea(99, 9) >= 0 ? 0 : 1, 0);
        due("of few behind it", x.pea(3, 2), 0);
        due("of few behind it", x.pea(3, 3), 3);
        asks("pea(4, 2)", Edges::busy, y -> y.pea(4, 2), 1);
    }

    private static void eveningWhats() {
        LeftAtFive x = laid("g3,0;h0;s0,0,40;e0,0,1;");
        due("worth", x.evening(0, 0), 0);
        due("hungry", x.evening(0, 1), 20);
        due("worth", x.evening(9999, 0), 0);
        due("hungry", x.evening(9999, 1), 20);
        x = laid("g3,0;h0;s0,0,40;");
        due("nobody eats: worth", x.evening(9999, 0), 120);
        due("nobody eats: hungry", x.evening(9999, 1), 0);
        asks("evening(0, 1)", () -> after(laid("g3,0;h0;s0,0,40;e0,0,1;"), 30), y -> y.evening(0, 1), 20);
        asks("evening(9999, 0)", () -> after(laid("g3,0;h0;s0,0,40;e0,0,1;"), 60), y -> y.evening(9999, 0), 0);
    }

    private static void eveningBad() {
        for (int n : outside(0, 9999)) {
            refused("evening(" + n + ", 0)", Edges::busy, x -> x.evening(n, 0), BAD);
            refused("evening(" + n + ", 1)", Edges::busy, x -> x.evening(n, 1), BAD);
        }
        for (int n : outside(0, 1)) {
            refused("evening(0, " + n + ")", Edges::busy, x -> x.evening(0, n), BAD);
        }
    }

    private static void keepMany() {
        LeftAtFive x = new LeftAtFive();
        due("one", x.keep(), 1);
        due("two", x.keep(), 2);
        x.back();
        x.back();
        due("one again", x.keep(), 1);
        LeftAtFive five = atFive();
        due("at five", five.keep(), 1);
        due("nothing is done by it", five.count(7), 1);
        LeftAtFive busy = busy();
        int ahead = busy.count(7);
        busy.keep();
        due("it is not undone", busy.count(7), ahead);
    }

    private static void keepFull() {
        refused("the third", () -> {
            LeftAtFive x = busy();
            x.keep();
            return x;
        }, LeftAtFive::keep, FULL);
        refused("the third at five", () -> {
            LeftAtFive x = busyAtFive();
            x.keep();
            return x;
        }, LeftAtFive::keep, FULL);
    }

    private static void backLast() {
        LeftAtFive x = new LeftAtFive();
        x.pass(12);
        x.keep();
        x.give(1, 0, 3, 2);
        x.pass(1);
        x.keep();
        x.toss(0, 0, 9);
        x.pass(47);
        due("the last one", x.back(), 1);
        due("minute 13", x.count(5), 13);
        due("pieces", x.house(0, 0, 0), 9);
        due("on the way", x.count(6), 1);
        x.pass(40);
        due("the first one", x.back(), 0);
        due("minute 12", x.count(5), 12);
        due("hungry", x.eater(3, 1), 1);
        due("none on the way", x.count(6), 0);
        due("kept no more", x.back(), NO);
        due("minute 12 still", x.count(5), 12);
        // Back to where it is: all stands as it stood.
        LeftAtFive y = busyAtFive();
        y.back();
        y.keep();
        List<String> then = stand(y);
        y.back();
        then.set(8, "count(8) 0");
        alike("kept just now", stand(y), then);
    }

    private static void backNothingUndone() {
        LeftAtFive x = busy();
        x.back();
        due("nothing to undo", x.count(7), 0);
        due("nothing to undo", x.undo(), NO);
        x.pass(1);
        due("what is done then can be", x.undo(), 0);
        due("nothing more", x.undo(), NO);
    }

    private static void backNone() {
        refused("back()", LeftAtFive::new, LeftAtFive::back, NO);
        refused("back() twice", () -> {
            LeftAtFive x = busy();
            x.back();
            x.toss(0, 0, 2);
            x.pass(3);
            return x;
        }, LeftAtFive::back, NO);
        refused("back() behind lay()", () -> {
            LeftAtFive x = new LeftAtFive();
            x.keep();
            write(x, P);
            x.lay();
            return x;
        }, LeftAtFive::back, NO);
    }

    private static void countWhats() {
        LeftAtFive x = laid("g1,0;g2,0;h0;h1;h60;s0,0,9;e0,0,1;d1,4;d2,6;k0,0,1;k0,1,2;k1,1,3;");
        int[] due = {2, 3, 1, 2, 3, 0, 0, 0, 0, 65};
        for (int what = 0; what <= 9; what++) {
            due("laid: count(" + what + ")", x.count(what), due[what]);
        }
        x.give(0, 2, 0, 1);
        x.pass(4);
        x.keep();
        x.write('x');
        int[] then = {2, 3, 1, 2, 3, 4, 1, 2, 1, 66};
        for (int what = 0; what <= 9; what++) {
            due("then: count(" + what + ")", x.count(what), then[what]);
        }
        x = laid("g1,0;g1,0;g1,0;g1,0;g1,0;h0;h1;h0;h0;h0;s0,0,40;" + times(8, "e0,0,1;") + times(5, "d1,2;")
                + times(3, "k0,0,1;"));
        for (int i = 0; i < 8; i++) {
            x.give(0, 1, 0, 1);
            x.toss(0, 0, 1);
        }
        x.keep();
        x.keep();
        x.keep();
        int[] most = {5, 5, 8, 5, 3, 0, 6, 8, 2, 25 + 15 + 8 + 56 + 25 + 21};
        for (int what = 0; what <= 9; what++) {
            due("all full: count(" + what + ")", x.count(what), most[what]);
        }
        x = laid(P);
        int[] least = {1, 1, 0, 0, 0, 0, 0, 0, 0, 8};
        for (int what = 0; what <= 9; what++) {
            due("nothing there: count(" + what + ")", x.count(what), least[what]);
        }
        due("at five", atFive().count(5), 60);
    }

    private static void countBad() {
        for (int n : outside(0, 9)) {
            refused("count(" + n + ")", Edges::busy, x -> x.count(n), BAD);
        }
    }
}
