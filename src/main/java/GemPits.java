import java.util.ArrayList;
import java.util.Arrays;
import java.util.NoSuchElementException;

/** Pits of gems, the stones out of them, and the cut of a rough one; ../shared/DOC.md says what it does. */
public final class GemPits {
    public static final int NONE = -1;

    private static final int MOST_PITS = 30;
    private static final int MOST_STONES = 60;
    private static final int BUYERS = 6;
    private static final int MOST_GRAVEL = 100;
    private static final int MOST_STEP = 100;
    private static final int MOST_DAYS = 1000;
    private static final int MOST_BASKET = 99;
    private static final int MOST_LAID = 100000;
    private static final int MOST_COSTS = 10000000;
    private static final int MOST_MONEY = 1000000;

    /** Where a price goes: the places in a row of shares. */
    private static final int COSTS = 0;
    private static final int LAND = 1;
    private static final int LICENCE = 2;
    private static final int LENDER = 3;
    private static final int DIGGERS = 4;
    private static final int PUMP = 5;
    private static final int SHARES = 6;

    private static final int BOND_FREE = 0;
    private static final int BOND_HELD = 1;
    private static final int BOND_LOST = 2;

    private final Tape tape;
    private final Ground ground;
    private final Market market;
    private final Rough gem;
    private int latestFault;

    public GemPits() {
        tape = new Tape();
        ground = new Ground();
        market = new Market();
        gem = new Rough();
        latestFault = NONE;
    }

    public int feed(int a, int b, int c, int d, int e) {
        if (!tape.hasRoom()) {
            return NONE;
        }
        tape.put(a);
        tape.put(b);
        tape.put(c);
        tape.put(d);
        tape.put(e);
        return tape.length();
    }

    public boolean end(int n) {
        return tape.shorten(n);
    }

    public void step(int n) throws IllegalArgumentException {
        if (n < 0 || n > MOST_STEP) {
            throw new IllegalArgumentException("a step is 0 to 100");
        }
        ground.setStep(n);
    }

    public int law() throws IllegalArgumentException {
        Law draft = ground.lawNow().copy();
        int terms = readTape(draft);
        if (latestFault != NONE) {
            throw new IllegalArgumentException("the text of the law is wrong");
        }
        ground.setLaw(draft);
        return terms;
    }

    public int agreement() throws IllegalArgumentException {
        Agreement draft = new Agreement();
        int parts = readTape(draft);
        if (latestFault != NONE) {
            throw new IllegalArgumentException("the text of the agreement is wrong");
        }
        market.setAgreement(draft);
        return parts;
    }

    public int fault() {
        return latestFault;
    }

    public int sink(int square) throws IndexOutOfBoundsException, UnsupportedOperationException {
        checkSquare(square);
        if (ground.pits() >= MOST_PITS) {
            throw new UnsupportedOperationException("there are 30 pits");
        }
        return ground.maySink(square) ? ground.sinkAt(square) : NONE;
    }

    public boolean wash(int pit, int gravel) throws IndexOutOfBoundsException, IllegalArgumentException {
        Pit washed = pitOf(pit);
        if (gravel < 0 || gravel > MOST_GRAVEL) {
            throw new IllegalArgumentException("gravel is 0 to 100");
        }
        return ground.tellFound(washed, gravel);
    }

    public boolean fill(int pit) throws IndexOutOfBoundsException {
        return pitOf(pit).fillOn(ground.today());
    }

    public int days(int n) throws IllegalArgumentException {
        if (n < 0 || n > MOST_DAYS) {
            throw new IllegalArgumentException("days are 0 to 1000");
        }
        ground.passDays(n);
        return ground.today();
    }

    public int span(int square, boolean most) throws IndexOutOfBoundsException {
        checkSquare(square);
        if (!ground.hasSpan(square)) {
            return NONE;
        }
        return most ? ground.greatestAt(square) : ground.leastAt(square);
    }

    public int best() {
        return ground.bestSquare();
    }

    public int look(int pit, int what) throws IndexOutOfBoundsException, NoSuchElementException {
        Pit seen = pitOf(pit);
        switch (what) {
            case 0:
                return seen.square;
            case 1:
                return seen.sunkOn;
            case 2:
                return seen.found;
            case 3:
                return seen.filledOn;
            case 4:
                return seen.bondState(ground.today());
            case 5:
                return seen.lastDay;
            default:
                throw new NoSuchElementException("a pit tells 0 to 5");
        }
    }

    public int stone(int pit, int basket)
            throws IndexOutOfBoundsException, IllegalArgumentException, IllegalStateException,
            UnsupportedOperationException {
        Pit from = pitOf(pit);
        if (basket < 0 || basket > MOST_BASKET) {
            throw new IllegalArgumentException("a basket is 0 to 99");
        }
        if (from.found == NONE || from.found == 0) {
            throw new IllegalStateException("the pit found nothing");
        }
        if (market.stones() >= MOST_STONES) {
            throw new UnsupportedOperationException("there are 60 stones");
        }
        return market.addStone(pit, basket);
    }

    public int lay(int money) throws IllegalArgumentException {
        if (money < 0 || money > MOST_LAID || market.costs() + money > MOST_COSTS) {
            throw new IllegalArgumentException("money laid out is 0 to 100000, costs 10000000 at most");
        }
        market.layOut(money);
        return market.costs();
    }

    public boolean hand(int stone, int buyer, int money)
            throws IndexOutOfBoundsException, IllegalArgumentException {
        Stone wanted = stoneOf(stone);
        if (buyer < 0 || buyer >= BUYERS) {
            throw new IndexOutOfBoundsException("a buyer is 0 to 5");
        }
        checkMoney(money);
        return wanted.takeHand(buyer, money);
    }

    public int sell(int stone, int limit) throws IndexOutOfBoundsException, IllegalArgumentException {
        Stone offered = stoneOf(stone);
        checkMoney(limit);
        if (offered.isSold()) {
            return NONE;
        }
        int buyer = offered.buyerFor(limit);
        if (buyer != NONE) {
            market.sellTo(offered, buyer);
        }
        return buyer;
    }

    public int part(int stone, int what) throws IndexOutOfBoundsException, NoSuchElementException {
        Stone seen = stoneOf(stone);
        switch (what) {
            case 0:
                return seen.pit;
            case 1:
                return seen.basket;
            case 2:
                return seen.buyer;
            case 3:
                return seen.price;
            default:
                if (what < 4 || what >= 4 + SHARES) {
                    throw new NoSuchElementException("a stone tells 0 to 9");
                }
                return seen.shares[what - 4];
        }
    }

    public void rough(int wide, int high) throws IllegalArgumentException {
        if (wide < 1 || wide > Rough.MOST_WIDE || high < 1 || high > Rough.MOST_HIGH) {
            throw new IllegalArgumentException("a rough is 1 to 10 wide and 1 to 8 high");
        }
        gem.begin(wide, high);
    }

    public boolean flaw(int x, int y, boolean is) throws IndexOutOfBoundsException {
        if (!gem.hasCell(x, y)) {
            throw new IndexOutOfBoundsException("the rough has no such cell");
        }
        return gem.setFlaw(x, y, is);
    }

    public int most() {
        return gem.greatestWorth();
    }

    public int cuts() {
        return gem.fewestCuts();
    }

    public int count(int what) {
        switch (what) {
            case 0:
                return ground.today();
            case 1:
                return ground.pits();
            case 2:
                return ground.openPits();
            case 3:
                return market.stones();
            case 4:
                return market.sold();
            case 5:
                return market.costs();
            case 6:
                return market.hadBy(LAND);
            case 7:
                return market.hadBy(LICENCE);
            case 8:
                return market.hadBy(LENDER);
            case 9:
                return market.hadBy(DIGGERS);
            case 10:
                return market.hadBy(PUMP);
            case 11:
                return ground.bonds(BOND_HELD);
            case 12:
                return ground.bonds(BOND_LOST);
            case 13:
                return ground.squaresOfOneAmount();
            case 14:
                return ground.squaresWithoutSpan();
            default:
                return NONE;
        }
    }

    /** Uses the tape up, and keeps the text's fault: how many clauses it has, if it has no fault. */
    private int readTape(Clauses into) {
        Reader text = new Reader(tape);
        int clauses = into.readAll(text);
        latestFault = text.firstFault();
        tape.shorten(0);
        return clauses;
    }

    private Pit pitOf(int pit) throws IndexOutOfBoundsException {
        if (pit < 0 || pit >= ground.pits()) {
            throw new IndexOutOfBoundsException("there is no such pit");
        }
        return ground.pitAt(pit);
    }

    private Stone stoneOf(int stone) throws IndexOutOfBoundsException {
        if (stone < 0 || stone >= market.stones()) {
            throw new IndexOutOfBoundsException("there is no such stone");
        }
        return market.stoneAt(stone);
    }

    private static void checkSquare(int square) throws IndexOutOfBoundsException {
        if (square < 0 || square >= Ground.SQUARES) {
            throw new IndexOutOfBoundsException("a square is 0 to 95");
        }
    }

    private static void checkMoney(int money) throws IllegalArgumentException {
        if (money < 0 || money > MOST_MONEY) {
            throw new IllegalArgumentException("money is 0 to 1000000");
        }
    }

    /** The bytes that were fed and not yet used up. */
    private static final class Tape {
        static final int MOST_BYTES = 400;
        static final int BYTES_A_FEED = 20;

        private final byte[] bytes = new byte[MOST_BYTES];
        private int length;

        int length() {
            return length;
        }

        boolean hasRoom() {
            return length + BYTES_A_FEED <= MOST_BYTES;
        }

        void put(int number) {
            for (int shift = 24; shift >= 0; shift -= 8) {
                if (length < MOST_BYTES) {
                    bytes[length] = (byte) (number >>> shift);
                    length++;
                }
            }
        }

        boolean shorten(int n) {
            if (n < 0 || n > length) {
                return false;
            }
            length = n;
            return true;
        }

        /** The byte, 0 to 255; NONE where the tape has none. */
        int byteAt(int place) {
            return place >= 0 && place < length ? bytes[place] & 255 : NONE;
        }
    }

    /** Reads the tape thing by thing, and remembers the first one that cannot stand where it is. */
    private static final class Reader {
        private static final int MOST_DIGITS = 6;

        private final Tape text;
        /** Where the next thing begins: never a blank; the text's length, if nothing comes any more. */
        private int at;
        private int firstFault;

        Reader(Tape tape) {
            text = tape;
            firstFault = NONE;
            goOnFrom(0);
        }

        int firstFault() {
            return firstFault;
        }

        /** The next thing cannot stand there, or more must come. */
        void refuse() {
            if (firstFault == NONE) {
                firstFault = at;
            }
        }

        boolean takeWord(String word) {
            int end = at;
            while (end < text.length() && isLetter(text.byteAt(end))) {
                end++;
            }
            if (end - at != word.length()) {
                return false;
            }
            for (int i = 0; i < word.length(); i++) {
                if (text.byteAt(at + i) != word.charAt(i)) {
                    return false;
                }
            }
            goOnFrom(end);
            return true;
        }

        void expectWord(String word) {
            if (!takeWord(word)) {
                refuse();
            }
        }

        /** The number that comes next; refuses it and answers NONE if it is none from least to most. */
        int expectNumber(int least, int most) {
            int end = at;
            int number = 0;
            while (end < text.length() && isDigit(text.byteAt(end))) {
                // Digits past the sixth are wrong anyhow; left out, they cannot wrap the number round.
                if (end - at < MOST_DIGITS) {
                    number = 10 * number + text.byteAt(end) - '0';
                }
                end++;
            }
            int digits = end - at;
            if (digits < 1 || digits > MOST_DIGITS || number < least || number > most) {
                refuse();
                return NONE;
            }
            goOnFrom(end);
            return number;
        }

        boolean takeSemicolon() {
            if (text.byteAt(at) != ';') {
                return false;
            }
            goOnFrom(at + 1);
            return true;
        }

        void expectEnd() {
            if (at < text.length()) {
                refuse();
            }
        }

        private void goOnFrom(int place) {
            at = place;
            while (at < text.length() && text.byteAt(at) == ' ') {
                at++;
            }
        }

        private static boolean isLetter(int b) {
            return b >= 'a' && b <= 'z';
        }

        private static boolean isDigit(int b) {
            return b >= '0' && b <= '9';
        }
    }

    /** What a text of clauses parted by semicolons says. */
    private abstract static class Clauses {
        abstract void readClause(Reader text);

        /** Whether what the clauses say may stand together. */
        abstract boolean agrees();

        /** How many clauses there are, if the text has no fault. */
        final int readAll(Reader text) {
            // Each clause takes a byte at least, so that the tape bounds them.
            for (int clauses = 1; clauses <= Tape.MOST_BYTES; clauses++) {
                readClause(text);
                if (text.firstFault() != NONE) {
                    return NONE;
                }
                if (!text.takeSemicolon()) {
                    finish(text);
                    return clauses;
                }
            }
            return NONE;
        }

        private void finish(Reader text) {
            text.expectEnd();
            if (!agrees()) {
                text.refuse();
            }
        }
    }

    private static final class Law extends Clauses {
        int apart = 0;
        int fillDays = 1000;
        int bond = 0;

        Law copy() {
            Law other = new Law();
            other.apart = apart;
            other.fillDays = fillDays;
            other.bond = bond;
            return other;
        }

        void readClause(Reader text) {
            if (text.takeWord("apart")) {
                apart = text.expectNumber(0, 11);
            } else if (text.takeWord("fill")) {
                fillDays = text.expectNumber(1, 1000);
            } else if (text.takeWord("bond")) {
                bond = text.expectNumber(0, 100000);
            } else {
                text.refuse();
            }
        }

        boolean agrees() {
            return true;
        }
    }

    /** How a price is parted; one that was never read leaves all to the diggers. */
    private static final class Agreement extends Clauses {
        private static final int WHOLE = 100;
        private static final int MOST_UNTIL = 999999;

        private final int[] hundredths = new int[SHARES];
        private boolean costsFirst;
        private int until;

        void readClause(Reader text) {
            if (text.takeWord("costs")) {
                text.expectWord("first");
                costsFirst = true;
            } else if (text.takeWord("land")) {
                hundredths[LAND] = text.expectNumber(0, WHOLE);
            } else if (text.takeWord("licence")) {
                hundredths[LICENCE] = text.expectNumber(0, WHOLE);
            } else if (text.takeWord("lender")) {
                hundredths[LENDER] = text.expectNumber(0, WHOLE);
                text.expectWord("until");
                until = text.expectNumber(0, MOST_UNTIL);
            } else if (text.takeWord("diggers")) {
                hundredths[DIGGERS] = text.expectNumber(0, WHOLE);
            } else if (text.takeWord("pump")) {
                hundredths[PUMP] = text.expectNumber(0, WHOLE);
            } else {
                text.refuse();
            }
        }

        boolean agrees() {
            int sum = 0;
            for (int each : hundredths) {
                sum += each;
            }
            return sum <= WHOLE;
        }

        /** Parts a price into a row of shares; costs and lenderHad are as ahead of the sale. */
        void partPrice(int price, int costs, int lenderHad, int[] shares) {
            shares[COSTS] = costsFirst ? Math.min(price, costs) : 0;
            int left = price - shares[COSTS];
            int lacking = Math.max(0, until - lenderHad);
            shares[LAND] = shareOf(left, LAND);
            shares[LICENCE] = shareOf(left, LICENCE);
            shares[LENDER] = Math.min(shareOf(left, LENDER), lacking);
            shares[PUMP] = shareOf(left, PUMP);
            // The diggers' own hundredths and all that is left over are the same as what no other has.
            shares[DIGGERS] = left - shares[LAND] - shares[LICENCE] - shares[LENDER] - shares[PUMP];
        }

        private int shareOf(int left, int who) {
            return left * hundredths[who] / WHOLE;
        }
    }

    private static final class Pit {
        final int square;
        final int sunkOn;
        final int lastDay;
        final int bond;
        int found;
        int filledOn;

        /** A pit that is sunk today, by the law as it is now. */
        Pit(int square, int today, Law law) {
            this.square = square;
            sunkOn = today;
            lastDay = today + law.fillDays;
            bond = law.bond;
            found = NONE;
            filledOn = NONE;
        }

        boolean isFilled() {
            return filledOn != NONE;
        }

        boolean fillOn(int today) {
            if (isFilled()) {
                return false;
            }
            filledOn = today;
            return true;
        }

        int bondState(int today) {
            if (bond == 0) {
                return BOND_FREE;
            }
            int lastOpen = isFilled() ? filledOn : today;
            if (lastOpen > lastDay) {
                return BOND_LOST;
            }
            return isFilled() ? BOND_FREE : BOND_HELD;
        }
    }

    /** The squares and their pits, the law on them, and the days. */
    private static final class Ground {
        static final int WIDE = 12;
        static final int SQUARES = 96;
        private static final int LAST_DAY = 3000;

        private final ArrayList<Pit> pits = new ArrayList<>();
        /** The ends of each square's span, kept with each pit that found something; crossed without a span. */
        private final int[] least = new int[SQUARES];
        private final int[] greatest = new int[SQUARES];
        private Law law = new Law();
        private int step = 20;
        private int today = 0;

        Ground() {
            Arrays.fill(greatest, MOST_GRAVEL);
        }

        Law lawNow() {
            return law;
        }

        void setLaw(Law now) {
            law = now;
        }

        void setStep(int now) {
            step = now;
            Arrays.fill(least, 0);
            Arrays.fill(greatest, MOST_GRAVEL);
            for (int i = 0; i < pits.size(); i++) {
                narrowSpans(pits.get(i));
            }
        }

        int today() {
            return today;
        }

        void passDays(int n) {
            today = Math.min(today + n, LAST_DAY);
        }

        int pits() {
            return pits.size();
        }

        /** The pit of a number that is 0 or more and below pits(). */
        Pit pitAt(int number) {
            return pits.get(number);
        }

        boolean maySink(int square) {
            for (int i = 0; i < pits.size(); i++) {
                Pit pit = pits.get(i);
                if (pit.square == square) {
                    return false;
                }
                if (!pit.isFilled() && stepsApart(pit.square, square) < law.apart) {
                    return false;
                }
            }
            return true;
        }

        int sinkAt(int square) {
            pits.add(new Pit(square, today, law));
            return pits.size() - 1;
        }

        boolean tellFound(Pit pit, int gravel) {
            if (pit.found != NONE) {
                return false;
            }
            pit.found = gravel;
            narrowSpans(pit);
            return true;
        }

        int leastAt(int square) {
            return least[square];
        }

        int greatestAt(int square) {
            return greatest[square];
        }

        boolean hasSpan(int square) {
            return least[square] <= greatest[square];
        }

        int bestSquare() {
            int best = NONE;
            int bestSum = NONE;
            int bestLeast = NONE;
            for (int square = 0; square < SQUARES; square++) {
                int sum = least[square] + greatest[square];
                boolean better = sum > bestSum || sum == bestSum && least[square] > bestLeast;
                if (better && hasSpan(square) && maySink(square)) {
                    best = square;
                    bestSum = sum;
                    bestLeast = least[square];
                }
            }
            return best;
        }

        int squaresOfOneAmount() {
            int squares = 0;
            for (int square = 0; square < SQUARES; square++) {
                if (least[square] == greatest[square]) {
                    squares++;
                }
            }
            return squares;
        }

        int squaresWithoutSpan() {
            int squares = 0;
            for (int square = 0; square < SQUARES; square++) {
                if (!hasSpan(square)) {
                    squares++;
                }
            }
            return squares;
        }

        int openPits() {
            int open = 0;
            for (int i = 0; i < pits.size(); i++) {
                if (!pits.get(i).isFilled()) {
                    open++;
                }
            }
            return open;
        }

        /** The money of all bonds in that state. */
        int bonds(int state) {
            int money = 0;
            for (int i = 0; i < pits.size(); i++) {
                Pit pit = pits.get(i);
                if (pit.bondState(today) == state) {
                    money += pit.bond;
                }
            }
            return money;
        }

        /** What a pit found, if it found something, bounds what lies under every square. */
        private void narrowSpans(Pit pit) {
            if (pit.found == NONE) {
                return;
            }
            for (int square = 0; square < SQUARES; square++) {
                int unlike = step * stepsApart(pit.square, square);
                least[square] = Math.max(least[square], pit.found - unlike);
                greatest[square] = Math.min(greatest[square], pit.found + unlike);
            }
        }

        private static int stepsApart(int one, int other) {
            int across = Math.abs(one % WIDE - other % WIDE);
            int along = Math.abs(one / WIDE - other / WIDE);
            return Math.max(across, along);
        }
    }

    private static final class Stone {
        final int pit;
        final int basket;
        final int[] hands = new int[BUYERS];
        final int[] shares = new int[SHARES];
        int buyer;
        int price;

        Stone(int pit, int basket) {
            this.pit = pit;
            this.basket = basket;
            Arrays.fill(hands, NONE);
            buyer = NONE;
            price = NONE;
        }

        boolean isSold() {
            return buyer != NONE;
        }

        boolean takeHand(int from, int money) {
            if (isSold()) {
                return false;
            }
            hands[from] = money;
            return true;
        }

        /** The buyer of the greatest hand that is not below the limit; NONE if no hand is enough. */
        int buyerFor(int limit) {
            int first = NONE;
            int greatest = limit - 1;
            for (int each = 0; each < BUYERS; each++) {
                if (hands[each] != NONE && hands[each] > greatest) {
                    first = each;
                    greatest = hands[each];
                }
            }
            return first;
        }
    }

    /** The stones, and where their prices went. */
    private static final class Market {
        private final ArrayList<Stone> stones = new ArrayList<>();
        /** What land, licence, lender, diggers and pump had of all sales. */
        private final int[] had = new int[SHARES];
        private Agreement agreement = new Agreement();
        private int costs = 0;
        private int sold = 0;

        void setAgreement(Agreement now) {
            agreement = now;
        }

        int stones() {
            return stones.size();
        }

        /** The stone of a number that is 0 or more and below stones(). */
        Stone stoneAt(int number) {
            return stones.get(number);
        }

        int addStone(int pit, int basket) {
            stones.add(new Stone(pit, basket));
            return stones.size() - 1;
        }

        int sold() {
            return sold;
        }

        int costs() {
            return costs;
        }

        void layOut(int money) {
            costs += money;
        }

        int hadBy(int who) {
            return had[who];
        }

        /** Sells a stone that is not sold to a buyer who has a hand for it. */
        void sellTo(Stone stone, int buyer) {
            stone.buyer = buyer;
            stone.price = stone.hands[buyer];
            agreement.partPrice(stone.price, costs, had[LENDER], stone.shares);
            for (int who = LAND; who < SHARES; who++) {
                had[who] += stone.shares[who];
            }
            costs -= stone.shares[COSTS];
            sold++;
        }
    }

    /** A rough stone, and what it is worth in the best of all ways to cut it. */
    private static final class Rough {
        static final int MOST_WIDE = 10;
        static final int MOST_HIGH = 8;
        /** How many runs of cells lie in a row of 10, and in a column of 8. */
        private static final int RUNS_ACROSS = 55;
        private static final int RUNS_ALONG = 36;

        private final boolean[] flawed = new boolean[MOST_WIDE * MOST_HIGH];
        /** Of each piece, by its place: whether it is without a flaw, its MOST and its FEWEST. */
        private final boolean[] clear = new boolean[RUNS_ACROSS * RUNS_ALONG];
        private final int[] worth = new int[RUNS_ACROSS * RUNS_ALONG];
        private final int[] fewest = new int[RUNS_ACROSS * RUNS_ALONG];
        private int wide = 1;
        private int high = 1;
        private boolean weighed = false;

        /** Begins a rough of sizes that were tested, without flaws. */
        void begin(int newWide, int newHigh) {
            wide = newWide;
            high = newHigh;
            for (int cell = 0; cell < flawed.length; cell++) {
                flawed[cell] = false;
            }
            weighed = false;
        }

        boolean hasCell(int x, int y) {
            return x >= 0 && x < wide && y >= 0 && y < high;
        }

        boolean setFlaw(int x, int y, boolean is) {
            int cell = y * MOST_WIDE + x;
            if (flawed[cell] == is) {
                return false;
            }
            flawed[cell] = is;
            weighed = false;
            return true;
        }

        int greatestWorth() {
            weighAll();
            return worth[place(0, 0, wide - 1, high - 1)];
        }

        int fewestCuts() {
            weighAll();
            return fewest[place(0, 0, wide - 1, high - 1)];
        }

        /** Weighs small pieces ahead of greater ones, so that the parts of each are known. */
        private void weighAll() {
            if (weighed) {
                return;
            }
            for (int right = 0; right < wide; right++) {
                for (int left = right; left >= 0; left--) {
                    for (int bottom = 0; bottom < high; bottom++) {
                        for (int top = bottom; top >= 0; top--) {
                            weigh(left, top, right, bottom);
                        }
                    }
                }
            }
            weighed = true;
        }

        private void weigh(int left, int top, int right, int bottom) {
            int piece = place(left, top, right, bottom);
            int cells = (right - left + 1) * (bottom - top + 1);
            clear[piece] = isClear(left, top, right, bottom);
            worth[piece] = clear[piece] ? cells * cells : 0;
            fewest[piece] = 0;
            if (clear[piece]) {
                // Any cut of a piece without a flaw loses: a square is more than its parts' squares.
                return;
            }
            for (int x = left; x < right; x++) {
                tryCut(piece, place(left, top, x, bottom), place(x + 1, top, right, bottom));
            }
            for (int y = top; y < bottom; y++) {
                tryCut(piece, place(left, top, right, y), place(left, y + 1, right, bottom));
            }
        }

        private boolean isClear(int left, int top, int right, int bottom) {
            if (left < right) {
                return clear[place(left, top, left, bottom)] && clear[place(left + 1, top, right, bottom)];
            }
            if (top < bottom) {
                return clear[place(left, top, right, top)] && clear[place(left, top + 1, right, bottom)];
            }
            return !flawed[top * MOST_WIDE + left];
        }

        private void tryCut(int piece, int one, int other) {
            int sum = worth[one] + worth[other];
            int cutsOfAll = fewest[one] + fewest[other] + 1;
            if (sum > worth[piece] || sum == worth[piece] && cutsOfAll < fewest[piece]) {
                worth[piece] = sum;
                fewest[piece] = cutsOfAll;
            }
        }

        private static int place(int left, int top, int right, int bottom) {
            return runOf(left, right) * RUNS_ALONG + runOf(top, bottom);
        }

        /** The number of the run from one place to the same or a greater one. */
        private static int runOf(int from, int to) {
            return to * (to + 1) / 2 + from;
        }
    }
}
