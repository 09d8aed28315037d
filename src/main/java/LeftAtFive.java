/** What is left at five in the houses of a street: see README.md, and the document for each promise. */
public final class LeftAtFive {
    public static final int BAD = -1, NO = -2, FULL = -3, NONE = -4;

    private static final int MOST_GOODS = 5;
    private static final int MOST_HOUSES = 5;
    private static final int MOST_EATERS = 8;
    private static final int MOST_DEMANDS = 5;
    private static final int MOST_RECIPES = 3;
    private static final int MOST_PIECES = 40;
    private static final int MOST_LETTERS = 200;
    private static final int MOST_WAYS = 6;
    private static final int MOST_UNDONE = 8;
    private static final int MOST_KEPT = 2;
    private static final int MOST_PEAS = 99;
    private static final int MOST_EATEN = 9;
    private static final int LAST_CELL = 60;
    private static final int FIVE = 60;
    private static final int BY_PACE = -1;

    private static final int LIQUID = 1;
    private static final int SEALED = 2;
    private static final int SPOILING = 3;

    private static final String FIRST_TEXT = "g3,0;g2,1;g5,2;g1,3;h0;h10;h25;s0,0,9;s0,1,7;s1,3,12;s2,2,3;s2,0,2;e0,0,15;e1,0,12;e1,1,20;e2,3,10;d2,3;d4,5;d7,2;k0,1,8;k0,3,5;";

    private final Letters text = new Letters();
    private Street street = new Street();
    private Street draft = new Street();
    private final Meals meals = new Meals();
    private final Meals drawn = new Meals();
    private final Kitchens now = new Kitchens();
    private final Pile undone = new Pile(MOST_UNDONE);
    private final Pile kept = new Pile(MOST_KEPT);
    private final Ahead ahead = new Ahead();
    private final Shops shops = new Shops();

    public LeftAtFive() {
        for (int i = 0; i < FIRST_TEXT.length(); i++) {
            text.append(FIRST_TEXT.charAt(i));
        }
        layText();
        text.clear();
    }

    // ---- kitchens

    public int write(int letter) {
        if (!within(letter, 32, 126)) {
            return BAD;
        }
        return text.append((char) letter);
    }

    public int wipe() {
        int length = text.size();
        text.clear();
        return length;
    }

    public int fault() {
        return text.read(draft);
    }

    public int lay() {
        return layText();
    }

    public int house(int h, int g, int what) {
        if (!street.isHouse(h) || !street.isGood(g) || !within(what, 0, 2)) {
            return BAD;
        }
        if (what == 0) {
            return now.piecesOf(h, g);
        }
        if (what == 1) {
            return now.leftOf(street, h, g);
        }
        return ahead.look(street, now, meals).leftOf(street, h, g);
    }

    public int eater(int i, int what) {
        if (!street.isEater(i) || !within(what, 0, 2)) {
            return BAD;
        }
        if (what == 0) {
            return now.eatenBy(i);
        }
        if (what == 1) {
            return now.hungerOf(i);
        }
        return ahead.look(street, now, meals).hungerOf(i);
    }

    public int way(int k, int what) {
        if (!within(k, 0, now.ways - 1) || !within(what, 0, 3)) {
            return BAD;
        }
        return now.tellWay(k, what);
    }

    // ---- an hour

    public int pass(int n) {
        if (!within(n, 1, FIVE)) {
            return BAD;
        }
        if (now.minute + n > FIVE) {
            return NO;
        }
        undone.push(now);
        now.passUntil(now.minute + n, street, meals);
        return now.minute;
    }

    public int give(int from, int to, int g, int n) {
        if (!street.isHouse(from) || !street.isHouse(to) || from == to) {
            return BAD;
        }
        if (!street.isGood(g) || !within(n, 1, MOST_PIECES)) {
            return BAD;
        }
        int comes = now.arrivalOf(street, from, to, g, n);
        if (comes >= 0) {
            undone.push(now);
            now.send(street, from, to, g, n);
        }
        return comes;
    }

    public int toss(int h, int g, int n) {
        if (!street.isHouse(h) || !street.isGood(g) || !within(n, 1, MOST_PIECES)) {
            return BAD;
        }
        if (!now.canSpare(h, g, n)) {
            return NO;
        }
        undone.push(now);
        now.add(h, g, -n);
        return now.piecesOf(h, g);
    }

    public int undo() {
        return undone.popInto(now) ? undone.size() : NO;
    }

    // ---- what will be

    public int taken(int h) {
        if (h != -1 && !street.isHouse(h)) {
            return BAD;
        }
        Kitchens five = ahead.look(street, now, meals);
        return h == -1 ? five.worthOfAll(street) : five.worthOf(street, h);
    }

    public int first(int what) {
        if (!within(what, 0, 1)) {
            return BAD;
        }
        int who = ahead.lookForHunger(street, now, meals);
        if (who < 0) {
            return NONE;
        }
        return what == 0 ? ahead.minute() : who;
    }

    public int gift(int what) {
        if (!within(what, 0, 1)) {
            return BAD;
        }
        ahead.seekGift(street, now, meals);
        if (ahead.bestGift == NONE) {
            return NONE;
        }
        return what == 0 ? ahead.bestGift : ahead.leastWorth;
    }

    public int carried(int g, int c) {
        if (!street.isGood(g) || !within(c, 0, LAST_CELL)) {
            return BAD;
        }
        ahead.look(street, now, meals);
        return ahead.mostCarried(street, now, g, c);
    }

    public int round(int x, int m, int what) {
        if (!within(x, 0, LAST_CELL) || !within(m, 0, 99) || !within(what, 0, 1)) {
            return BAD;
        }
        ahead.look(street, now, meals);
        ahead.seekRound(street, x, m);
        return what == 0 ? ahead.roundWorth : ahead.roundCells;
    }

    // ---- shops

    public int bake(int l, int s, int what) {
        if (!within(l, 0, 9) || !within(s, 0, 9) || !within(what, 0, 2)) {
            return BAD;
        }
        if (street.demands == 0) {
            return NONE;
        }
        int loaves = Shops.bestLoaves(street, l, s);
        if (what == 0) {
            return loaves;
        }
        return (int) Shops.partOf(Shops.tenfoldCost(street, loaves, l, s), 10, what == 1);
    }

    public long buy(int v, int a, int b, int x, int what) {
        if (!within(v, 0, 99) || !within(a, 0, 99) || !within(b, 0, 9)) {
            return BAD;
        }
        if (!within(x, 0, 10) || !within(what, 0, 2)) {
            return BAD;
        }
        shops.seekMinute(v, a, b, x);
        if (what == 0) {
            return shops.bestMinute;
        }
        return Shops.partOf(shops.bestGain + 1000 * Shops.WHOLE, Shops.WHOLE, what == 1);
    }

    public int soup(int k) {
        if (k != -1 && !street.isRecipe(k)) {
            return BAD;
        }
        shops.cook(street, ahead.look(street, now, meals));
        return k == -1 ? shops.bestSoups : shops.timesMade(k);
    }

    public int gave(int v, int what) {
        if (!within(v, 0, 9999) || !within(what, 0, 1)) {
            return BAD;
        }
        Kitchens five = ahead.look(street, now, meals);
        return what == 0 ? Shops.setsWorth(street, five, v) : Shops.lowestSetWorth(street, five, v);
    }

    public int pea(int n, int m) {
        if (!within(n, 1, MOST_PEAS) || !within(m, 1, MOST_EATEN)) {
            return BAD;
        }
        return shops.peasToWin(n, m);
    }

    public int evening(int z, int what) {
        if (!within(z, 0, 9999) || !within(what, 0, 1)) {
            return BAD;
        }
        drawn.plan(street, z);
        Kitchens five = ahead.look(street, now, drawn);
        return what == 0 ? five.worthOfAll(street) : five.hungerOfAll() - now.hungerOfAll();
    }

    // ---- kept

    public int keep() {
        if (kept.size() >= MOST_KEPT) {
            return FULL;
        }
        kept.push(now);
        return kept.size();
    }

    public int back() {
        if (!kept.popInto(now)) {
            return NO;
        }
        undone.clear();
        return kept.size();
    }

    public int count(int what) {
        switch (what) {
            case 0: return street.goods;
            case 1: return street.houses;
            case 2: return street.eaters;
            case 3: return street.demands;
            case 4: return street.recipes;
            case 5: return now.minute;
            case 6: return now.ways;
            case 7: return undone.size();
            case 8: return kept.size();
            case 9: return text.size();
            default: return BAD;
        }
    }

    private int layText() {
        if (text.read(draft) != NONE || !draft.isWhole()) {
            return NO;
        }
        Street old = street;
        street = draft;
        draft = old;
        meals.plan(street, BY_PACE);
        now.begin(street);
        undone.clear();
        kept.clear();
        return street.houses;
    }

    private static boolean within(int n, int least, int most) {
        return n >= least && n <= most;
    }

    /** Rows of numbers, looked into only where they have a place. */
    private static final class Rows {
        static int at(int[] row, int i) {
            return i >= 0 && i < row.length ? row[i] : 0;
        }

        static void put(int[] row, int i, int n) {
            if (i >= 0 && i < row.length) {
                row[i] = n;
            }
        }

        static void add(int[] row, int i, int n) {
            if (i >= 0 && i < row.length) {
                row[i] += n;
            }
        }

        static int sum(int[] row) {
            int all = 0;
            for (int i = 0; i < row.length; i++) {
                all += row[i];
            }
            return all;
        }

        static void clear(int[] row) {
            for (int i = 0; i < row.length; i++) {
                row[i] = 0;
            }
        }

        static void copy(int[] from, int[] to) {
            System.arraycopy(from, 0, to, 0, Math.min(from.length, to.length));
        }
    }

    /** The text, and how it is read into a street. */
    private static final class Letters {
        private final char[] letters = new char[MOST_LETTERS];
        private final int[] numbers = new int[3];
        private int length;
        private int place;

        int size() {
            return length;
        }

        void clear() {
            length = 0;
        }

        int append(char letter) {
            if (length < 0 || length >= letters.length) {
                return FULL;
            }
            letters[length] = letter;
            length++;
            return length;
        }

        /** Tells the street all items ahead of the first fault: that one's place, or NONE. */
        int read(Street street) {
            street.clear();
            place = 0;
            for (int items = 0; items < MOST_LETTERS && place < length; items++) {
                int start = place;
                if (!readItem(street)) {
                    return start;
                }
            }
            return NONE;
        }

        private boolean readItem(Street street) {
            char letter = letterHere();
            int wanted = numbersBehind(letter);
            if (wanted == 0) {
                return false;
            }
            place++;
            for (int i = 0; i < wanted; i++) {
                int number = readNumber();
                if (number < 0 || letterHere() != (i == wanted - 1 ? ';' : ',')) {
                    return false;
                }
                place++;
                Rows.put(numbers, i, number);
            }
            return street.tell(letter, numbers);
        }

        private static int numbersBehind(char letter) {
            switch (letter) {
                case 'h': return 1;
                case 'g': case 'd': return 2;
                case 's': case 'e': case 'k': return 3;
                default: return 0;
            }
        }

        /** One or two figures; -1 where there is none. */
        private int readNumber() {
            if (!figureHere()) {
                return -1;
            }
            int number = letterHere() - '0';
            place++;
            if (figureHere()) {
                number = 10 * number + letterHere() - '0';
                place++;
            }
            return number;
        }

        private boolean figureHere() {
            char letter = letterHere();
            return letter >= '0' && letter <= '9';
        }

        /** No letter of a text is 0: behind the last one nothing fits. */
        private char letterHere() {
            return place >= 0 && place < length && place < letters.length ? letters[place] : (char) 0;
        }
    }

    /** What a text tells: it does not change while the hour goes by. */
    private static final class Street {
        int goods;
        int houses;
        int eaters;
        int demands;
        int recipes;
        private final int[] worth = new int[MOST_GOODS];
        private final int[] kind = new int[MOST_GOODS];
        private final int[] cell = new int[MOST_HOUSES];
        private final int[] stock = new int[MOST_HOUSES * MOST_GOODS];
        private final int[] eatsAt = new int[MOST_EATERS];
        private final int[] pace = new int[MOST_EATERS];
        private final int[] loaves = new int[MOST_DEMANDS];
        private final int[] chance = new int[MOST_DEMANDS];
        private final int[] one = new int[MOST_RECIPES];
        private final int[] other = new int[MOST_RECIPES];
        private final int[] price = new int[MOST_RECIPES];

        void clear() {
            goods = 0;
            houses = 0;
            eaters = 0;
            demands = 0;
            recipes = 0;
            Rows.clear(stock);
        }

        boolean tell(char letter, int[] numbers) {
            int a = Rows.at(numbers, 0);
            int b = Rows.at(numbers, 1);
            int c = Rows.at(numbers, 2);
            switch (letter) {
                case 'g': return tellGood(a, b);
                case 'h': return tellHouse(a);
                case 's': return tellStock(a, b, c);
                case 'e': return tellEater(a, b, c);
                case 'd': return tellDemand(a, b);
                case 'k': return tellRecipe(a, b, c);
                default: return false;
            }
        }

        private boolean tellGood(int each, int sort) {
            if (goods >= MOST_GOODS || !within(each, 1, 9) || !within(sort, 0, SPOILING)) {
                return false;
            }
            Rows.put(worth, goods, each);
            Rows.put(kind, goods, sort);
            goods++;
            return true;
        }

        private boolean tellHouse(int x) {
            if (houses >= MOST_HOUSES || !within(x, 0, LAST_CELL)) {
                return false;
            }
            Rows.put(cell, houses, x);
            houses++;
            return true;
        }

        private boolean tellStock(int h, int g, int n) {
            if (!isHouse(h) || !isGood(g) || !within(n, 0, MOST_PIECES)) {
                return false;
            }
            Rows.put(stock, spot(h, g), n);
            return true;
        }

        private boolean tellEater(int h, int g, int minutes) {
            if (eaters >= MOST_EATERS || !isHouse(h) || !isGood(g) || !within(minutes, 1, 20)) {
                return false;
            }
            Rows.put(eatsAt, eaters, spot(h, g));
            Rows.put(pace, eaters, minutes);
            eaters++;
            return true;
        }

        private boolean tellDemand(int n, int tenths) {
            if (demands >= MOST_DEMANDS || !within(n, 0, 20) || !within(tenths, 0, 10)) {
                return false;
            }
            Rows.put(loaves, demands, n);
            Rows.put(chance, demands, tenths);
            demands++;
            return true;
        }

        private boolean tellRecipe(int a, int b, int v) {
            if (recipes >= MOST_RECIPES || !isGood(a) || !isGood(b) || !within(v, 1, 9)) {
                return false;
            }
            Rows.put(one, recipes, a);
            Rows.put(other, recipes, b);
            Rows.put(price, recipes, v);
            recipes++;
            return true;
        }

        boolean isWhole() {
            return goods > 0 && houses > 0 && (demands == 0 || chancesTogether() == 10);
        }

        private int chancesTogether() {
            int all = 0;
            for (int i = 0; i < demands; i++) {
                all += chanceOf(i);
            }
            return all;
        }

        boolean isGood(int g) {
            return within(g, 0, goods - 1);
        }

        boolean isHouse(int h) {
            return within(h, 0, houses - 1);
        }

        boolean isEater(int i) {
            return within(i, 0, eaters - 1);
        }

        boolean isRecipe(int k) {
            return within(k, 0, recipes - 1);
        }

        static int spot(int h, int g) {
            return h * MOST_GOODS + g;
        }

        int worthEach(int g) {
            return Rows.at(worth, g);
        }

        boolean spoils(int g) {
            return Rows.at(kind, g) == SPOILING;
        }

        int cellOf(int h) {
            return Rows.at(cell, h);
        }

        int cellsBetween(int from, int to) {
            return Math.abs(cellOf(from) - cellOf(to));
        }

        void stockInto(int[] pieces) {
            Rows.copy(stock, pieces);
        }

        /** Where an eater eats, and what. */
        int spotOf(int i) {
            return Rows.at(eatsAt, i);
        }

        int paceOf(int i) {
            return Rows.at(pace, i);
        }

        int loavesOf(int i) {
            return Rows.at(loaves, i);
        }

        int chanceOf(int i) {
            return Rows.at(chance, i);
        }

        int oneOf(int k) {
            return Rows.at(one, k);
        }

        int otherOf(int k) {
            return Rows.at(other, k);
        }

        int priceOf(int k) {
            return Rows.at(price, k);
        }

        /** How many of n pieces in a house are left. */
        int leftOf(int g, int n) {
            switch (Rows.at(kind, g)) {
                case LIQUID: return n / 2;
                case SEALED: return 0;
                default: return n;
            }
        }
    }

    /** Which eaters eat in which minute: told ahead, as gifts ask for the same hour again and again. */
    private static final class Meals {
        private final int[] begin = new int[FIVE + 2];
        private final int[] who = new int[FIVE * MOST_EATERS];
        private int told;

        /** By an evening's draws, or by pace alone where z is BY_PACE. */
        void plan(Street street, int z) {
            told = 0;
            for (int t = 1; t <= FIVE; t++) {
                Rows.put(begin, t, told);
                for (int i = 0; i < street.eaters; i++) {
                    int pace = street.paceOf(i);
                    if (pace > 0 && numberOf(z, t, i) % pace == 0) {
                        Rows.put(who, told, i);
                        told++;
                    }
                }
            }
            Rows.put(begin, FIVE + 1, told);
        }

        private static long numberOf(int z, int t, int i) {
            if (z == BY_PACE) {
                return t;
            }
            long x = 7919L * z + 6151L * t + 3571L * i + 1;
            return x * x % 65521;
        }

        int firstOf(int minute) {
            return Rows.at(begin, minute);
        }

        int eaterAt(int meal) {
            return Rows.at(who, meal);
        }
    }

    /** How things stand in all houses and on the way, in one minute. */
    private static final class Kitchens {
        private static final int TOLD = 4;

        int minute;
        int ways;
        private final int[] pieces = new int[MOST_HOUSES * MOST_GOODS];
        private final int[] eaten = new int[MOST_EATERS];
        private final int[] hungry = new int[MOST_EATERS];
        private final int[] sent = new int[MOST_WAYS * TOLD];

        void begin(Street street) {
            minute = 0;
            ways = 0;
            street.stockInto(pieces);
            Rows.clear(eaten);
            Rows.clear(hungry);
        }

        void copy(Kitchens from) {
            minute = from.minute;
            ways = from.ways;
            Rows.copy(from.pieces, pieces);
            Rows.copy(from.eaten, eaten);
            Rows.copy(from.hungry, hungry);
            Rows.copy(from.sent, sent);
        }

        int piecesOf(int h, int g) {
            return Rows.at(pieces, Street.spot(h, g));
        }

        void add(int h, int g, int n) {
            Rows.add(pieces, Street.spot(h, g), n);
        }

        int eatenBy(int i) {
            return Rows.at(eaten, i);
        }

        int hungerOf(int i) {
            return Rows.at(hungry, i);
        }

        int hungerOfAll() {
            return Rows.sum(hungry);
        }

        int tellWay(int k, int what) {
            return Rows.at(sent, k * TOLD + what);
        }

        int leftOf(Street street, int h, int g) {
            return street.leftOf(g, piecesOf(h, g));
        }

        int worthOf(Street street, int h) {
            int worth = 0;
            for (int g = 0; g < street.goods; g++) {
                worth += street.worthEach(g) * leftOf(street, h, g);
            }
            return worth;
        }

        int worthOfAll(Street street) {
            int worth = 0;
            for (int h = 0; h < street.houses; h++) {
                worth += worthOf(street, h);
            }
            return worth;
        }

        boolean canSpare(int h, int g, int n) {
            return minute < FIVE && piecesOf(h, g) >= n;
        }

        /** The minute in which a gift would come, or NO or FULL. */
        int arrivalOf(Street street, int from, int to, int g, int n) {
            if (!canSpare(from, g, n)) {
                return NO;
            }
            int cells = street.cellsBetween(from, to);
            return cells > 0 && ways >= MOST_WAYS ? FULL : minute + cells;
        }

        void send(Street street, int from, int to, int g, int n) {
            int cells = street.cellsBetween(from, to);
            add(from, g, -n);
            if (cells == 0) {
                add(to, g, n);
                return;
            }
            Rows.put(sent, ways * TOLD, to);
            Rows.put(sent, ways * TOLD + 1, g);
            Rows.put(sent, ways * TOLD + 2, n);
            Rows.put(sent, ways * TOLD + 3, minute + cells);
            ways++;
        }

        void passUntil(int end, Street street, Meals meals) {
            int minutes = end - minute;
            for (int i = 0; i < minutes; i++) {
                passOne(street, meals);
            }
        }

        void passOne(Street street, Meals meals) {
            minute++;
            bringGifts();
            if (minute % 10 == 0) {
                spoil(street);
            }
            int end = meals.firstOf(minute + 1);
            for (int meal = meals.firstOf(minute); meal < end; meal++) {
                feed(street, meals.eaterAt(meal));
            }
        }

        private void bringGifts() {
            int still = 0;
            for (int k = 0; k < ways; k++) {
                if (tellWay(k, 3) == minute) {
                    add(tellWay(k, 0), tellWay(k, 1), tellWay(k, 2));
                } else {
                    moveWay(k, still);
                    still++;
                }
            }
            ways = still;
        }

        private void moveWay(int from, int to) {
            for (int what = 0; from != to && what < TOLD; what++) {
                Rows.put(sent, to * TOLD + what, Rows.at(sent, from * TOLD + what));
            }
        }

        private void spoil(Street street) {
            for (int g = 0; g < street.goods; g++) {
                for (int h = 0; street.spoils(g) && h < street.houses; h++) {
                    if (piecesOf(h, g) > 0) {
                        add(h, g, -1);
                    }
                }
            }
        }

        private void feed(Street street, int i) {
            int spot = street.spotOf(i);
            if (Rows.at(pieces, spot) > 0) {
                Rows.add(pieces, spot, -1);
                Rows.add(eaten, i, 1);
            } else {
                Rows.add(hungry, i, 1);
            }
        }

        /** The first eater who has been hungry more often than then; -1 where there is none. */
        int hungrierThan(Kitchens then) {
            for (int i = 0; i < MOST_EATERS; i++) {
                if (hungerOf(i) > then.hungerOf(i)) {
                    return i;
                }
            }
            return -1;
        }
    }

    /** Copies of kitchens, the latest on top; a full pile loses its lowest one. */
    private static final class Pile {
        private final Kitchens[] copies;
        private int height;

        Pile(int most) {
            copies = new Kitchens[most > 0 ? most : 1];
            for (int i = 0; i < copies.length; i++) {
                copies[i] = new Kitchens();
            }
        }

        int size() {
            return height;
        }

        void clear() {
            height = 0;
        }

        void push(Kitchens kitchens) {
            if (height >= copies.length) {
                dropLowest();
            }
            if (height >= 0 && height < copies.length) {
                copies[height].copy(kitchens);
                height++;
            }
        }

        private void dropLowest() {
            if (copies.length == 0) {
                return;
            }
            Kitchens lowest = copies[0];
            for (int i = 1; i < copies.length; i++) {
                copies[i - 1] = copies[i];
            }
            copies[copies.length - 1] = lowest;
            height = copies.length - 1;
        }

        boolean popInto(Kitchens kitchens) {
            if (height < 1 || height > copies.length) {
                return false;
            }
            height--;
            kitchens.copy(copies[height]);
            return true;
        }
    }

    /** What will be, tried on a copy of the kitchens. */
    private static final class Ahead {
        int bestGift;
        int leastWorth;
        int roundWorth;
        int roundCells;
        private final Kitchens five = new Kitchens();

        /** The kitchens at five, nothing else being done. */
        Kitchens look(Street street, Kitchens now, Meals meals) {
            five.copy(now);
            five.passUntil(FIVE, street, meals);
            return five;
        }

        int minute() {
            return five.minute;
        }

        /** Passes to the first minute with somebody hungry: who is so, or -1. */
        int lookForHunger(Street street, Kitchens now, Meals meals) {
            five.copy(now);
            int minutes = FIVE - now.minute;
            for (int i = 0; i < minutes; i++) {
                five.passOne(street, meals);
                int who = five.hungrierThan(now);
                if (who >= 0) {
                    return who;
                }
            }
            return -1;
        }

        void seekGift(Street street, Kitchens now, Meals meals) {
            leastWorth = look(street, now, meals).worthOfAll(street);
            bestGift = NONE;
            for (int from = 0; from < street.houses; from++) {
                for (int to = 0; to < street.houses; to++) {
                    for (int g = 0; from != to && g < street.goods; g++) {
                        tryGifts(street, now, meals, from, to, g);
                    }
                }
            }
        }

        private void tryGifts(Street street, Kitchens now, Meals meals, int from, int to, int g) {
            for (int n = 1; n <= 9 && now.arrivalOf(street, from, to, g, n) >= 0; n++) {
                five.copy(now);
                five.send(street, from, to, g, n);
                five.passUntil(FIVE, street, meals);
                int worth = five.worthOfAll(street);
                if (worth < leastWorth) {
                    leastWorth = worth;
                    bestGift = 1000 * from + 100 * to + 10 * g + n;
                }
            }
        }

        /**
         * By the narrowest cut: of each set of houses that want, what is to spare near it
         * and what all others want is a bound, and the least bound can be carried.
         */
        int mostCarried(Street street, Kitchens now, int g, int c) {
            int most = Integer.MAX_VALUE;
            for (int set = 0; set < 1 << street.houses; set++) {
                int bound = 0;
                for (int h = 0; h < street.houses; h++) {
                    if ((set >> h & 1) == 0) {
                        bound += wantedIn(street, now, h, g);
                    }
                    if (isNear(street, h, set, c)) {
                        bound += five.piecesOf(h, g);
                    }
                }
                most = Math.min(most, bound);
            }
            return most;
        }

        private int wantedIn(Street street, Kitchens now, int h, int g) {
            int wanted = 0;
            for (int i = 0; i < street.eaters; i++) {
                if (street.spotOf(i) == Street.spot(h, g)) {
                    wanted += five.hungerOf(i) - now.hungerOf(i);
                }
            }
            return wanted;
        }

        private static boolean isNear(Street street, int h, int set, int c) {
            for (int to = 0; to < street.houses; to++) {
                if ((set >> to & 1) == 1 && street.cellsBetween(h, to) <= c) {
                    return true;
                }
            }
            return false;
        }

        /** The best walk ends at houses, or where it starts. */
        void seekRound(Street street, int x, int m) {
            roundWorth = 0;
            roundCells = 0;
            for (int i = -1; i < street.houses; i++) {
                int low = i < 0 ? x : street.cellOf(i);
                for (int j = -1; j < street.houses; j++) {
                    int high = j < 0 ? x : street.cellOf(j);
                    if (low <= x && x <= high) {
                        tryRound(street, x, m, low, high);
                    }
                }
            }
        }

        private void tryRound(Street street, int x, int m, int low, int high) {
            int cells = high - low + Math.min(x - low, high - x);
            if (cells > m) {
                return;
            }
            int worth = 0;
            for (int h = 0; h < street.houses; h++) {
                if (within(street.cellOf(h), low, high)) {
                    worth += five.worthOf(street, h);
                }
            }
            if (worth > roundWorth || worth == roundWorth && cells < roundCells) {
                roundWorth = worth;
                roundCells = cells;
            }
        }
    }

    /** Bakers, buyers, cooks, givers and eaters of peas. */
    private static final class Shops {
        /** Ten to the power of ten: chances of ten minutes waited are whole numbers of it. */
        static final long WHOLE = 10000000000L;

        private static final int AFTER = MOST_EATEN + 1;

        int bestMinute;
        long bestGain;
        int bestSoups;
        private final int[] stock = new int[MOST_GOODS];
        private final int[] made = new int[MOST_RECIPES];
        private final boolean[] wins = new boolean[(MOST_PEAS + 1) * AFTER];

        static int bestLoaves(Street street, int l, int s) {
            int best = 0;
            for (int q = 1; q <= 20; q++) {
                if (tenfoldCost(street, q, l, s) < tenfoldCost(street, best, l, s)) {
                    best = q;
                }
            }
            return best;
        }

        static int tenfoldCost(Street street, int q, int l, int s) {
            int cost = 0;
            for (int i = 0; i < street.demands; i++) {
                int over = q - street.loavesOf(i);
                cost += street.chanceOf(i) * (over > 0 ? l * over : -s * over);
            }
            return cost;
        }

        /** A fraction's upper or lower part in lowest terms. */
        static long partOf(long above, long below, boolean upper) {
            long common = commonDivisor(above, below);
            long part = upper ? above : below;
            return common > 0 ? part / common : part;
        }

        private static long commonDivisor(long a, long b) {
            long divisor = a;
            long rest = b;
            for (int step = 0; step < 1000 && rest != 0; step++) {
                long next = divisor % rest;
                divisor = rest;
                rest = next;
            }
            return divisor;
        }

        void seekMinute(int v, int a, int b, int x) {
            long there = WHOLE;
            for (int t = 0; t <= 10; t++) {
                long gain = (v - Math.max(a - b * t, 0)) * there;
                if (t == 0 || gain > bestGain) {
                    bestMinute = t;
                    bestGain = gain;
                }
                there = there / 10 * (10 - x);
            }
        }

        /** From the most of recipe 0 down, so that of ways worth as much the first one stays. */
        void cook(Street street, Kitchens five) {
            gather(street, five);
            bestSoups = -1;
            for (int a = mostOf(street, 0); a >= 0; a--) {
                use(street, 0, a);
                // Two recipes that want the same pieces bring less than this, never more.
                if (worthOf(street, a, mostOf(street, 1), mostOf(street, 2)) > bestSoups) {
                    cookBehind(street, a);
                }
                use(street, 0, -a);
            }
        }

        private void cookBehind(Street street, int a) {
            for (int b = mostOf(street, 1); b >= 0; b--) {
                use(street, 1, b);
                tryWay(street, a, b, mostOf(street, 2));
                use(street, 1, -b);
            }
        }

        int timesMade(int k) {
            return Rows.at(made, k);
        }

        private void gather(Street street, Kitchens five) {
            Rows.clear(stock);
            for (int g = 0; g < street.goods; g++) {
                for (int h = 0; h < street.houses; h++) {
                    Rows.add(stock, g, five.leftOf(street, h, g));
                }
            }
        }

        private int mostOf(Street street, int k) {
            if (!street.isRecipe(k)) {
                return 0;
            }
            int one = Rows.at(stock, street.oneOf(k));
            int other = Rows.at(stock, street.otherOf(k));
            return street.oneOf(k) == street.otherOf(k) ? one / 2 : Math.min(one, other);
        }

        private void use(Street street, int k, int times) {
            if (street.isRecipe(k)) {
                Rows.add(stock, street.oneOf(k), -times);
                Rows.add(stock, street.otherOf(k), -times);
            }
        }

        private void tryWay(Street street, int a, int b, int c) {
            int worth = worthOf(street, a, b, c);
            if (worth > bestSoups) {
                bestSoups = worth;
                Rows.put(made, 0, a);
                Rows.put(made, 1, b);
                Rows.put(made, 2, c);
            }
        }

        private static int worthOf(Street street, int a, int b, int c) {
            return a * street.priceOf(0) + b * street.priceOf(1) + c * street.priceOf(2);
        }

        static int setsWorth(Street street, Kitchens five, int v) {
            int sets = 0;
            for (int set = 0; set < 1 << street.houses; set++) {
                if (worthOfSet(street, five, set) == v) {
                    sets++;
                }
            }
            return sets;
        }

        static int lowestSetWorth(Street street, Kitchens five, int v) {
            for (int set = 0; set < 1 << street.houses; set++) {
                if (worthOfSet(street, five, set) == v) {
                    return set;
                }
            }
            return NONE;
        }

        private static int worthOfSet(Street street, Kitchens five, int set) {
            int worth = 0;
            for (int h = 0; h < street.houses; h++) {
                if ((set >> h & 1) == 1) {
                    worth += five.worthOf(street, h);
                }
            }
            return worth;
        }

        int peasToWin(int n, int m) {
            for (int left = 0; left < n; left++) {
                for (int before = 1; before <= m; before++) {
                    int place = left * AFTER + before;
                    if (place >= 0 && place < wins.length) {
                        wins[place] = winningMeal(left, before, m) > 0;
                    }
                }
            }
            return winningMeal(n, 0, m);
        }

        /** The fewest peas to eat and win, with so many there and so many eaten just before; 0: none. */
        private int winningMeal(int left, int before, int m) {
            for (int eats = 1; eats <= m && eats <= left; eats++) {
                int place = (left - eats) * AFTER + eats;
                if (eats != before && place >= 0 && place < wins.length && !wins[place]) {
                    return eats;
                }
            }
            return 0;
        }
    }
}
