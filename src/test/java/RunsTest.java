import java.util.Random;

/** All promises: random runs of calls, wild arguments among them, answered as PlainPits answers. */
public final class RunsTest {
    private static final int RUNS = 1000;
    private static final int CALLS = 512;
    private static final String[] THINGS = {
        "apart", "fill", "bond", "costs", "first", "costs first", "land", "licence", "lender", "until", "diggers",
        "pump", ";", " ", "0", "1", "5", "11", "12", "100", "101", "999999", "1000000", "apar", "x", "-", "\t"
    };
    private static final int[] WILD = {
        Integer.MIN_VALUE, Integer.MAX_VALUE, -1, 0, 1, 2, 5, 6, 10, 11, 14, 15, 20, 95, 96, 99, 100, 101, 1000, 1001,
        100000, 100001, 1000000, 1000001, Integer.MAX_VALUE - 1, Integer.MIN_VALUE + 3
    };

    private final Random random;
    private final GemPits real = new GemPits();
    private final PlainPits plain = new PlainPits();
    private String text = "";
    private int laid = 0;

    private RunsTest(int seed) {
        random = new Random(seed);
    }

    public static void main(String[] args) {
        for (int seed = 0; seed < RUNS; seed++) {
            RunsTest run = new RunsTest(seed);
            // Each run leans towards some calls, so that it comes far with them.
            int first = run.random.nextInt(Method.values().length);
            int wild = run.random.nextInt(3) == 0 ? 4 : 40;
            for (int call = 0; call < CALLS; call++) {
                run.callOnce(seed, first, wild);
            }
        }
        Check.close();
    }

    private enum Method {
        FEED, END, STEP, LAW, AGREEMENT, FAULT, SINK, WASH, FILL, DAYS, SPAN, BEST, LOOK, STONE, LAY, HAND, SELL,
        PART, ROUGH, FLAW, MOST, CUTS, COUNT, TEXT
    }

    private void callOnce(int seed, int first, int wild) {
        Method[] all = Method.values();
        Method method = all[random.nextInt(3) == 0 ? (first + random.nextInt(6)) % all.length
                : random.nextInt(all.length)];
        if ((method == Method.STEP || method == Method.ROUGH) && random.nextInt(4) > 0) {
            method = Method.FLAW;
        }
        if (method == Method.TEXT && laid == text.length()) {
            text = random.nextBoolean() ? wildText() : rightText();
            laid = 0;
        }
        int[] a = argumentsOf(method);
        for (int i = 0; i < a.length; i++) {
            if (random.nextInt(wild) == 0) {
                a[i] = WILD[random.nextInt(WILD.length)];
            }
        }
        String got = answer(method, a, true);
        String due = answer(method, a, false);
        if (!got.equals(due)) {
            Check.same("run " + seed + ": " + method + java.util.Arrays.toString(a) + " " + got + ", due is " + due,
                    false, true);
        }
        if (method == Method.TEXT) {
            laid = text.length();
        }
    }

    private int below(int bound) {
        return random.nextInt(bound);
    }

    private int[] argumentsOf(Method method) {
        switch (method) {
            case FEED:
                return new int[] {random.nextInt(), 0x20202020, 0x3b203120, 0x62000000, random.nextInt()};
            case END:
                return new int[] {below(60)};
            case STEP:
                return new int[] {below(3) == 0 ? below(101) : below(25)};
            case SINK:
            case LAY:
                return new int[] {below(96)};
            case WASH:
                return new int[] {below(30), below(3) == 0 ? below(101) : 40 + below(20)};
            case FILL:
                return new int[] {below(30)};
            case DAYS:
                return new int[] {below(5) == 0 ? below(1001) : below(12)};
            case SPAN:
                return new int[] {below(96), below(2)};
            case LOOK:
                return new int[] {below(30), below(6)};
            case STONE:
                return new int[] {below(30), below(100)};
            case HAND:
                return new int[] {below(60), below(6), below(2) == 0 ? below(9) : below(1000001)};
            case SELL:
                return new int[] {below(60), below(2) == 0 ? below(9) : below(1000001)};
            case PART:
                return new int[] {below(60), below(10)};
            case ROUGH:
                return new int[] {1 + below(10), 1 + below(8)};
            case FLAW:
                return new int[] {below(10), below(8), below(2)};
            case COUNT:
                return new int[] {below(15)};
            default:
                return new int[0];
        }
    }

    private String wildText() {
        StringBuilder wild = new StringBuilder();
        for (int things = below(14); things >= 0; things--) {
            wild.append(THINGS[below(THINGS.length)]);
            if (below(2) == 0) {
                wild.append(' ');
            }
        }
        return wild.toString();
    }

    /** A text that is mostly right. */
    private String rightText() {
        boolean ofLaw = random.nextBoolean();
        StringBuilder right = new StringBuilder();
        for (int clauses = below(4); clauses >= 0; clauses--) {
            switch (below(ofLaw ? 3 : 6)) {
                case 0:
                    right.append(ofLaw ? "apart " + below(5) : "costs first");
                    break;
                case 1:
                    right.append(ofLaw ? "fill " + (1 + below(50)) : "lender " + below(60) + " until " + below(1000));
                    break;
                case 2:
                    right.append(ofLaw ? "bond" + below(100001) : "land " + below(40));
                    break;
                case 3:
                    right.append("licence ").append(below(40));
                    break;
                case 4:
                    right.append("diggers").append(below(40));
                    break;
                default:
                    right.append(" pump ").append(below(40));
                    break;
            }
            right.append(clauses > 0 ? " ;" : below(9) == 0 ? ";" : "");
        }
        return right.toString();
    }

    private String answer(Method method, int[] a, boolean isReal) {
        try {
            return String.valueOf(isReal ? askReal(method, a) : askPlain(method, a));
        } catch (RuntimeException e) {
            if (isReal && !Check.isThrownByTheClass(e)) {
                return "throws of itself " + e;
            }
            return "throws." + e.getClass().getSimpleName();
        }
    }

    private static long number(boolean is) {
        return is ? 1 : 0;
    }

    /** Lays the text on the tape and reads it, as a law or as an agreement. */
    private long readReal() {
        real.end(0);
        TapeText.lay(real, text);
        return text.startsWith("apart") || text.startsWith("fill") || text.startsWith("bond")
                ? real.law() : real.agreement();
    }

    private long readPlain() {
        plain.end(0);
        for (int from = 0; from < text.length(); from += 20) {
            int[] words = new int[5];
            for (int i = from; i < from + 20 && i < text.length(); i++) {
                words[(i - from) / 4] |= text.charAt(i) << (24 - (i - from) % 4 * 8);
            }
            plain.feed(words);
        }
        plain.end(text.length());
        return text.startsWith("apart") || text.startsWith("fill") || text.startsWith("bond")
                ? plain.law() : plain.agreement();
    }

    private long askReal(Method method, int[] a) {
        switch (method) {
            case FEED: return real.feed(a[0], a[1], a[2], a[3], a[4]);
            case END: return number(real.end(a[0]));
            case STEP: real.step(a[0]); return 0;
            case LAW: return real.law();
            case AGREEMENT: return real.agreement();
            case FAULT: return real.fault();
            case SINK: return real.sink(a[0]);
            case WASH: return number(real.wash(a[0], a[1]));
            case FILL: return number(real.fill(a[0]));
            case DAYS: return real.days(a[0]);
            case SPAN: return real.span(a[0], a[1] == 1);
            case BEST: return real.best();
            case LOOK: return real.look(a[0], a[1]);
            case STONE: return real.stone(a[0], a[1]);
            case LAY: return real.lay(a[0]);
            case HAND: return number(real.hand(a[0], a[1], a[2]));
            case SELL: return real.sell(a[0], a[1]);
            case PART: return real.part(a[0], a[1]);
            case ROUGH: real.rough(a[0], a[1]); return 0;
            case FLAW: return number(real.flaw(a[0], a[1], a[2] == 1));
            case MOST: return real.most();
            case CUTS: return real.cuts();
            case COUNT: return real.count(a[0]);
            default: return readReal();
        }
    }

    private long askPlain(Method method, int[] a) {
        switch (method) {
            case FEED: return plain.feed(a);
            case END: return number(plain.end(a[0]));
            case STEP: plain.step(a[0]); return 0;
            case LAW: return plain.law();
            case AGREEMENT: return plain.agreement();
            case FAULT: return plain.fault();
            case SINK: return plain.sink(a[0]);
            case WASH: return number(plain.wash(a[0], a[1]));
            case FILL: return number(plain.fill(a[0]));
            case DAYS: return plain.days(a[0]);
            case SPAN: return plain.span(a[0], a[1] == 1);
            case BEST: return plain.best();
            case LOOK: return plain.look(a[0], a[1]);
            case STONE: return plain.stone(a[0], a[1]);
            case LAY: return plain.lay(a[0]);
            case HAND: return number(plain.hand(a[0], a[1], a[2]));
            case SELL: return plain.sell(a[0], a[1]);
            case PART: return plain.part(a[0], a[1]);
            case ROUGH: plain.rough(a[0], a[1]); return 0;
            case FLAW: return number(plain.flaw(a[0], a[1], a[2] == 1));
            case MOST: return plain.most();
            case CUTS: return plain.cuts();
            case COUNT: return plain.count(a[0]);
            default: return readPlain();
        }
    }
}
