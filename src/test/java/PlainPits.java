import java.util.ArrayList;
import java.util.Arrays;
import java.util.HashMap;
import java.util.List;
import java.util.Map;
import java.util.regex.Matcher;
import java.util.regex.Pattern;

/** The document once more, in the plainest way and with the whole Java library, for tests to compare with. */
final class PlainPits {
    private static final String[] AGREEMENT = {
        "costs first", "land N", "licence N", "lender N until N", "diggers N", "pump N"
    };
    private static final Pattern THING = Pattern.compile("[a-z]+|[0-9]+|[^ ]", Pattern.DOTALL);

    private static final class Pit {
        int square;
        int sunk;
        int found = -1;
        int filled = -1;
        int bond;
        int fill;
    }

    private static final class Stone {
        int pit;
        int basket;
        int buyer = -1;
        int price = -1;
        final int[] hands = {-1, -1, -1, -1, -1, -1};
        final long[] shares = new long[6];
    }

    private final StringBuilder tape = new StringBuilder();
    private final List<Pit> pits = new ArrayList<>();
    private final List<Stone> stones = new ArrayList<>();
    private final Map<String, Integer> law = new HashMap<>(Map.of("apart", 0, "fill", 1000, "bond", 0));
    private Map<String, Integer> agreement = new HashMap<>();
    private int step = 20;
    private int today = 0;
    private int fault = -1;
    private long costs = 0;
    private boolean[][] flaws = new boolean[1][1];

    long feed(int... numbers) {
        if (tape.length() > 380) {
            return -1;
        }
        for (int number : numbers) {
            for (String hex : String.format("%08x", number).split("(?<=\\G..)")) {
                tape.append((char) Integer.parseInt(hex, 16));
            }
        }
        return tape.length();
    }

    boolean end(int n) {
        if (n < 0 || tape.length() < n) {
            return false;
        }
        tape.delete(n, tape.length());
        return true;
    }

    void step(int n) {
        need(n >= 0 && n <= 100);
        step = n;
    }

    long law() {
        Map<String, Integer> told = new HashMap<>();
        int terms = read(told, new String[] {"apart N", "fill N", "bond N"});
        need(terms != -1);
        law.putAll(told);
        return terms;
    }

    long agreement() {
        Map<String, Integer> told = new HashMap<>();
        int parts = read(told, AGREEMENT);
        need(parts != -1);
        agreement = told;
        return parts;
    }

    long fault() {
        return fault;
    }

    /** Reads the tape as clauses of those shapes: how many, or -1 and its fault. */
    private int read(Map<String, Integer> told, String[] shapes) {
        List<String> things = new ArrayList<>();
        List<Integer> begins = new ArrayList<>();
        Matcher matcher = THING.matcher(tape);
        while (matcher.find()) {
            things.add(matcher.group());
            begins.add(matcher.start());
        }
        begins.add(tape.length());
        int length = tape.length();
        tape.setLength(0);
        int at = 0;
        int clauses = 0;
        fault = -1;
        while (true) {
            int begin = at;
            String first = begin < things.size() ? things.get(begin) : "";
            String shape = Arrays.stream(shapes).filter(s -> s.split(" ")[0].equals(first)).findAny().orElse(null);
            if (shape == null) {
                fault = begins.get(begin);
                return -1;
            }
            String key = first;
            for (String due : shape.split(" ")) {
                String thing = at < things.size() ? things.get(at) : "";
                if (!due.equals("N") && !due.equals(thing) || due.equals("N") && !fits(key, thing)) {
                    fault = begins.get(at);
                    return -1;
                }
                key = due.equals("N") ? key : due;
                told.put(key, due.equals("N") ? Integer.parseInt(thing) : 0);
                at++;
            }
            clauses++;
            if (at == things.size()) {
                break;
            }
            if (!things.get(at).equals(";")) {
                fault = begins.get(at);
                return -1;
            }
            at++;
        }
        int sum = 0;
        for (String who : List.of("land", "licence", "lender", "diggers", "pump")) {
            sum += told.getOrDefault(who, 0);
        }
        fault = sum > 100 ? length : -1;
        return sum > 100 ? -1 : clauses;
    }

    private static boolean fits(String key, String thing) {
        if (!thing.matches("[0-9]{1,6}")) {
            return false;
        }
        int number = Integer.parseInt(thing);
        switch (key) {
            case "apart":
                return number <= 11;
            case "fill":
                return number >= 1 && number <= 1000;
            case "bond":
                return number <= 100000;
            case "until":
                return true;
            default:
                return number <= 100;
        }
    }

    long sink(int square) {
        square(square);
        if (pits.size() == 30) {
            throw new UnsupportedOperationException();
        }
        if (!maySink(square)) {
            return -1;
        }
        Pit pit = new Pit();
        pit.square = square;
        pit.sunk = today;
        pit.bond = law.get("bond");
        pit.fill = law.get("fill");
        pits.add(pit);
        return pits.size() - 1;
    }

    private boolean maySink(int square) {
        return pits.stream().noneMatch(p -> p.square == square
                || p.filled == -1 && apart(p.square, square) < law.get("apart"));
    }

    private static int apart(int one, int other) {
        return Math.max(Math.abs(one % 12 - other % 12), Math.abs(one / 12 - other / 12));
    }

    boolean wash(int pit, int gravel) {
        Pit washed = at(pits, pit);
        need(gravel >= 0 && gravel <= 100);
        if (washed.found != -1) {
            return false;
        }
        washed.found = gravel;
        return true;
    }

    boolean fill(int pit) {
        Pit filled = at(pits, pit);
        if (filled.filled != -1) {
            return false;
        }
        filled.filled = today;
        return true;
    }

    long days(int n) {
        need(n >= 0 && n <= 1000);
        for (int day = 0; day < n && today < 3000; day++) {
            today++;
        }
        return today;
    }

    private List<Integer> amounts(int square) {
        List<Integer> amounts = new ArrayList<>();
        for (int amount = 0; amount <= 100; amount++) {
            boolean let = true;
            for (Pit p : pits) {
                let &= p.found == -1 || Math.abs(p.found - amount) <= step * apart(p.square, square);
            }
            if (let) {
                amounts.add(amount);
            }
        }
        return amounts;
    }

    long span(int square, boolean most) {
        square(square);
        List<Integer> amounts = amounts(square);
        return amounts.isEmpty() ? -1 : amounts.get(most ? amounts.size() - 1 : 0);
    }

    long best() {
        long best = -1;
        long bestValue = -1;
        for (int square = 95; square >= 0; square--) {
            long least = span(square, false);
            long value = (least + span(square, true)) * 1000 + least;
            if (least != -1 && maySink(square) && value >= bestValue) {
                best = square;
                bestValue = value;
            }
        }
        return best;
    }

    private int bondOf(Pit pit) {
        int open = (pit.filled == -1 ? today : pit.filled) - pit.sunk;
        if (pit.bond == 0) {
            return 0;
        }
        return open > pit.fill ? 2 : pit.filled == -1 ? 1 : 0;
    }

    long look(int pit, int what) {
        Pit seen = at(pits, pit);
        int[] told = {seen.square, seen.sunk, seen.found, seen.filled, bondOf(seen), seen.sunk + seen.fill};
        return told[what(what, told.length)];
    }

    long stone(int pit, int basket) {
        Pit from = at(pits, pit);
        need(basket >= 0 && basket <= 99);
        if (from.found <= 0) {
            throw new IllegalStateException();
        }
        if (stones.size() == 60) {
            throw new UnsupportedOperationException();
        }
        Stone stone = new Stone();
        stone.pit = pit;
        stone.basket = basket;
        stones.add(stone);
        return stones.size() - 1;
    }

    long lay(int money) {
        need(money >= 0 && money <= 100000 && costs + money <= 10000000);
        costs += money;
        return costs;
    }

    boolean hand(int stone, int buyer, int money) {
        Stone wanted = at(stones, stone);
        if (buyer < 0 || buyer > 5) {
            throw new IndexOutOfBoundsException();
        }
        need(money >= 0 && money <= 1000000);
        if (wanted.buyer != -1) {
            return false;
        }
        wanted.hands[buyer] = money;
        return true;
    }

    long sell(int stone, int limit) {
        Stone offered = at(stones, stone);
        need(limit >= 0 && limit <= 1000000);
        int greatest = Arrays.stream(offered.hands).max().getAsInt();
        if (offered.buyer != -1 || greatest < limit) {
            return -1;
        }
        long lenderHad = had(3);
        while (offered.buyer == -1 || offered.hands[offered.buyer] != greatest) {
            offered.buyer++;
        }
        offered.price = greatest;
        long left = greatest;
        if (agreement.containsKey("costs")) {
            offered.shares[0] = Math.min(costs, left);
            costs -= offered.shares[0];
            left -= offered.shares[0];
        }
        String[] names = {"land", "licence", "lender", "diggers", "pump"};
        long over = left;
        for (int i = 0; i < names.length; i++) {
            long share = left * agreement.getOrDefault(names[i], 0) / 100;
            if (names[i].equals("lender")) {
                share = Math.max(0, Math.min(share, agreement.getOrDefault("until", 0) - lenderHad));
            }
            offered.shares[i + 1] = share;
            over -= share;
        }
        offered.shares[4] += over;
        return offered.buyer;
    }

    private long had(int who) {
        return stones.stream().mapToLong(s -> s.shares[who]).sum();
    }

    long part(int stone, int what) {
        Stone seen = at(stones, stone);
        if (what >= 0 && what <= 3) {
            return new int[] {seen.pit, seen.basket, seen.buyer, seen.price}[what];
        }
        return seen.shares[what(what == Integer.MIN_VALUE ? -1 : what - 4, 6)];
    }

    void rough(int wide, int high) {
        need(wide >= 1 && wide <= 10 && high >= 1 && high <= 8);
        flaws = new boolean[wide][high];
    }

    boolean flaw(int x, int y, boolean is) {
        if (x < 0 || y < 0 || x >= flaws.length || y >= flaws[0].length) {
            throw new IndexOutOfBoundsException();
        }
        boolean was = flaws[x][y];
        flaws[x][y] = is;
        return was != is;
    }

    long most() {
        return cut(0, 0, flaws.length, flaws[0].length, new HashMap<>())[0];
    }

    long cuts() {
        return -cut(0, 0, flaws.length, flaws[0].length, new HashMap<>())[1];
    }

    /** Worth, and cuts below 0, of the best way to cut the piece ahead of right and bottom. */
    private int[] cut(int left, int top, int right, int bottom, Map<Integer, int[]> known) {
        int key = ((left * 11 + top) * 11 + right) * 11 + bottom;
        if (known.containsKey(key)) {
            return known.get(key);
        }
        boolean clear = true;
        for (int x = left; x < right; x++) {
            for (int y = top; y < bottom; y++) {
                clear &= !flaws[x][y];
            }
        }
        int cells = (right - left) * (bottom - top);
        int[] best = {clear ? cells * cells : 0, 0};
        for (int x = left + 1; x < right; x++) {
            best = better(best, cut(left, top, x, bottom, known), cut(x, top, right, bottom, known));
        }
        for (int y = top + 1; y < bottom; y++) {
            best = better(best, cut(left, top, right, y, known), cut(left, y, right, bottom, known));
        }
        known.put(key, best);
        return best;
    }

    private static int[] better(int[] best, int[] one, int[] other) {
        int[] both = {one[0] + other[0], one[1] + other[1] - 1};
        return Arrays.compare(both, best) > 0 ? both : best;
    }

    long count(int what) {
        long[] told = new long[15];
        told[0] = today;
        told[1] = pits.size();
        told[2] = pits.stream().filter(p -> p.filled == -1).count();
        told[3] = stones.size();
        told[4] = stones.stream().filter(s -> s.buyer != -1).count();
        told[5] = costs;
        for (int who = 1; who <= 5; who++) {
            told[5 + who] = had(who);
        }
        told[11] = pits.stream().filter(p -> bondOf(p) == 1).mapToLong(p -> p.bond).sum();
        told[12] = pits.stream().filter(p -> bondOf(p) == 2).mapToLong(p -> p.bond).sum();
        if (what >= 13) {
            for (int square = 0; square < 96; square++) {
                int amounts = amounts(square).size();
                told[13] += amounts == 1 ? 1 : 0;
                told[14] += amounts == 0 ? 1 : 0;
            }
        }
        return what < 0 || what > 14 ? -1 : told[what];
    }

    private static void need(boolean right) {
        if (!right) {
            throw new IllegalArgumentException();
        }
    }

    private static void square(int square) {
        if (square < 0 || square > 95) {
            throw new IndexOutOfBoundsException();
        }
    }

    private static int what(int what, int bound) {
        if (what < 0 || what >= bound) {
            throw new java.util.NoSuchElementException();
        }
        return what;
    }

    private static <T> T at(List<T> list, int number) {
        if (number < 0 || number >= list.size()) {
            throw new IndexOutOfBoundsException();
        }
        return list.get(number);
    }
}
