import java.util.HashMap;
import java.util.Map;
import java.util.Random;

/** Promises 20 to 23: a rough, its flaws, MOST and FEWEST. */
public final class RoughTest {
    private static final Class<IndexOutOfBoundsException> NO_SUCH = IndexOutOfBoundsException.class;
    private static final Class<IllegalArgumentException> WRONG = IllegalArgumentException.class;

    public static void main(String[] args) {
        sizes();
        flaws();
        known();
        againstAllWays();
        Check.close();
    }

    private static void sizes() {
        GemPits x = new GemPits();
        x.rough(10, 8);
        Check.same("22: the greatest", x.most(), 6400);
        Check.same("23: uncut", x.cuts(), 0);
        int[][] none = {{0, 1}, {11, 1}, {1, 0}, {1, 9}, {-1, -1}, {8, 10}, {Integer.MIN_VALUE, 1}};
        for (int[] size : none) {
            Check.fails("20: a size is none", WRONG, () -> roughOf(x, size[0], size[1]));
        }
        Check.same("20: stays", x.most(), 6400);
        x.flaw(9, 7, true);
        x.rough(10, 8);
        Check.same("20: without flaws", x.most(), 6400);
        Check.same("20: the first cell had none", x.flaw(0, 0, true), true);
        x.rough(10, 8);
        Check.same("20: nor has it now", x.flaw(0, 0, false), false);
        x.flaw(0, 0, true);
        Check.same("22: weighed with a flaw", x.most() < 6400, true);
        x.rough(2, 3);
        Check.same("23: cuts ahead of most", x.cuts(), 0);
        Check.same("20: smaller", x.most(), 36);
        Check.fails("21: x is too great", NO_SUCH, () -> x.flaw(2, 0, true) ? 1 : 0);
        Check.fails("21: y is too great", NO_SUCH, () -> x.flaw(0, 3, true) ? 1 : 0);
        Check.fails("21: x is below 0", NO_SUCH, () -> x.flaw(-1, 0, true) ? 1 : 0);
        Check.fails("21: y is below 0", NO_SUCH, () -> x.flaw(0, -1, true) ? 1 : 0);
        x.rough(1, 1);
        Check.same("20: the least", x.most(), 1);
    }

    private static long roughOf(GemPits x, int wide, int high) {
        x.rough(wide, high);
        return 0;
    }

    private static void flaws() {
        GemPits x = new GemPits();
        x.rough(3, 2);
        Check.same("21: it had none", x.flaw(2, 1, false), false);
        Check.same("21: a flaw", x.flaw(2, 1, true), true);
        Check.same("21: again", x.flaw(2, 1, true), false);
        Check.same("22: 2 by 2, 1 by 1", x.most(), 17);
        Check.same("23: two cuts", x.cuts(), 2);
        Check.same("21: no flaw", x.flaw(2, 1, false), true);
        Check.same("22: whole again", x.most(), 36);
        Check.same("23: whole again", x.cuts(), 0);
    }

    private static void known() {
        GemPits x = new GemPits();
        x.rough(10, 1);
        for (int cell = 0; cell < 10; cell += 2) {
            x.flaw(cell, 0, true);
        }
        Check.same("22: every other cell", x.most(), 5);
        Check.same("23: every cut", x.cuts(), 9);
        for (int cell = 0; cell < 10; cell++) {
            x.flaw(cell, 0, true);
        }
        Check.same("22: all are flaws", x.most(), 0);
        Check.same("23: nothing to gain", x.cuts(), 0);
        GemPits y = new GemPits();
        y.rough(3, 3);
        y.flaw(1, 1, true);
        // 3 by 1, 3 by 1 and what is left of the middle: 9 + 9 + 1 + 1.
        Check.same("22: a flaw in the middle", y.most(), 20);
        Check.same("23: a flaw in the middle", y.cuts(), 4);
        GemPits z = new GemPits();
        z.rough(2, 2);
        z.flaw(0, 0, true);
        z.flaw(1, 1, true);
        Check.same("22: a slant", z.most(), 2);
        Check.same("23: a slant", z.cuts(), 3);
    }

    private static void againstAllWays() {
        Random random = new Random(20);
        for (int run = 0; run < 400; run++) {
            int wide = 1 + random.nextInt(run % 4 == 0 ? 10 : 5);
            int high = 1 + random.nextInt(run % 4 == 0 ? 8 : 4);
            boolean[][] flawed = new boolean[high][wide];
            GemPits x = new GemPits();
            x.rough(wide, high);
            for (int flaws = 0; flaws < 12; flaws++) {
                int column = random.nextInt(wide);
                int row = random.nextInt(high);
                boolean is = random.nextInt(4) > 0;
                Check.same("21: changed", x.flaw(column, row, is), flawed[row][column] != is);
                flawed[row][column] = is;
                int[] due = cutBest(flawed, new HashMap<>());
                Check.same("22: run " + run, x.most(), due[0]);
                Check.same("23: run " + run, x.cuts(), due[1]);
            }
        }
    }

    /** The worth and the cuts of the best way to cut, by trying all on copies of the piece. */
    private static int[] cutBest(boolean[][] piece, Map<String, int[]> known) {
        String key = java.util.Arrays.deepToString(piece);
        int[] best = known.get(key);
        if (best != null) {
            return best;
        }
        int high = piece.length;
        int wide = piece[0].length;
        boolean clear = !key.contains("true");
        best = new int[] {clear ? wide * wide * high * high : 0, 0};
        for (int x = 1; x < wide; x++) {
            better(best, cutBest(columns(piece, 0, x), known), cutBest(columns(piece, x, wide), known));
        }
        for (int y = 1; y < high; y++) {
            better(best, cutBest(java.util.Arrays.copyOfRange(piece, 0, y), known),
                    cutBest(java.util.Arrays.copyOfRange(piece, y, high), known));
        }
        known.put(key, best);
        return best;
    }

    private static void better(int[] best, int[] one, int[] other) {
        int worth = one[0] + other[0];
        int cuts = one[1] + other[1] + 1;
        if (worth > best[0] || worth == best[0] && cuts < best[1]) {
            best[0] = worth;
            best[1] = cuts;
        }
    }

    private static boolean[][] columns(boolean[][] piece, int from, int to) {
        boolean[][] part = new boolean[piece.length][];
        for (int row = 0; row < piece.length; row++) {
            part[row] = java.util.Arrays.copyOfRange(piece[row], from, to);
        }
        return part;
    }
}
