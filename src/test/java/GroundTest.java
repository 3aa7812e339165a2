/** Promises 1 and 4, 8 to 14: pits, their days and bonds, spans and the best square. */
public final class GroundTest {
    private static final Class<IndexOutOfBoundsException> NO_SUCH = IndexOutOfBoundsException.class;
    private static final Class<IllegalArgumentException> WRONG = IllegalArgumentException.class;

    public static void main(String[] args) {
        newObject();
        steps();
        spansOfOnePit();
        spansOfPitsThatDisagree();
        pitsThatFoundNothing();
        sinking();
        thirtyPits();
        washing();
        filling();
        passingDays();
        bestSquare();
        looking();
        bondsByTheLawOfTheirSinking();
        Check.close();
    }

    private static void newObject() {
        GemPits x = new GemPits();
        Check.same("NONE", GemPits.NONE, -1);
        for (int what = 0; what <= 12; what++) {
            Check.same("1: count " + what, x.count(what), 0);
        }
        Check.same("1: no square of one amount", x.count(13), 0);
        Check.same("1: each square has a span", x.count(14), 0);
        Check.same("1: no fault ahead of any text", x.fault(), -1);
        Check.same("1: a rough of one clear cell", x.most(), 1);
        Check.same("1: nothing to cut", x.cuts(), 0);
        Check.fails("1: of one cell alone", NO_SUCH, () -> x.flaw(1, 0, true) ? 1 : 0);
        x.sink(0);
        Check.same("1: apart is 0", x.sink(1), 1);
        Check.same("1: fill is 1000", x.look(0, 5), 1000);
        Check.same("1: bond is 0", x.look(0, 4), 0);
    }

    private static void steps() {
        GemPits x = new GemPits();
        x.sink(0);
        x.wash(0, 50);
        Check.same("4: step is 20 at first", x.span(1, true), 70);
        x.step(0);
        Check.same("4: step 0", x.span(95, false), 50);
        Check.same("4: step 0 leaves one amount everywhere", x.count(13), 96);
        x.step(100);
        Check.same("4: step 100, least", x.span(1, false), 0);
        Check.same("4: step 100, most", x.span(1, true), 100);
        Check.same("4: step 100, the pit itself", x.span(0, true), 50);
        Check.fails("4: step 101", WRONG, () -> stepOf(x, 101));
        Check.fails("4: step -1", WRONG, () -> stepOf(x, -1));
        Check.fails("4: step least", WRONG, () -> stepOf(x, Integer.MIN_VALUE));
        Check.same("4: a step that is none changes nothing", x.span(1, true), 100);
    }

    private static long stepOf(GemPits x, int n) {
        x.step(n);
        return 0;
    }

    private static void spansOfOnePit() {
        GemPits x = new GemPits();
        x.sink(12 * 3 + 4);
        x.wash(0, 30);
        Check.same("12: the pit", x.span(40, false), 30);
        Check.same("12: the pit, most", x.span(40, true), 30);
        Check.same("12: a slanting step", x.span(12 * 2 + 3, true), 50);
        Check.same("12: two on, one up", x.span(12 * 2 + 6, true), 70);
        Check.same("12: not below 0", x.span(12 * 2 + 6, false), 0);
        Check.same("12: one on, three up", x.span(12 * 0 + 5, true), 90);
        Check.same("12: not above 100", x.span(12 * 7 + 11, true), 100);
        Check.fails("12: no square 96", NO_SUCH, () -> x.span(96, true));
        Check.fails("12: no square -1", NO_SUCH, () -> x.span(-1, false));
        Check.same("24: one square of one amount", x.count(13), 1);
        x.fill(0);
        Check.same("12: a filled pit tells on", x.span(40, true), 30);
    }

    private static void spansOfPitsThatDisagree() {
        GemPits x = new GemPits();
        x.step(10);
        x.sink(0);
        x.sink(3);
        x.wash(0, 10);
        x.wash(1, 90);
        Check.same("12: none between, least", x.span(1, false), -1);
        Check.same("12: none between, most", x.span(1, true), -1);
        // 10 + 10 * 11 and 90 - 10 * 8 overlap far away: from 10 to 100.
        Check.same("12: a span far off, least", x.span(11, false), 10);
        Check.same("12: a span far off, most", x.span(11, true), 100);
        Check.same("24: one amount", x.count(13), countOneAmount(x));
        Check.same("24: without a span", x.count(14), countNone(x));
        Check.same("24: some have none", x.count(14) > 0, true);
        x.step(27);
        Check.same("4: the first pit counts in a new step", x.span(2, true), 64);
        Check.same("12: at last one amount", x.span(3, false), 90);
        Check.same("12: 10 + 27 to 90 - 54", x.span(1, false), 36);
        Check.same("12: 10 + 27 to 90 - 54, most", x.span(1, true), 37);
    }

    private static int countOneAmount(GemPits x) {
        int squares = 0;
        for (int square = 0; square < 96; square++) {
            int least = x.span(square, false);
            squares += least != -1 && least == x.span(square, true) ? 1 : 0;
        }
        return squares;
    }

    private static int countNone(GemPits x) {
        int squares = 0;
        for (int square = 0; square < 96; square++) {
            squares += x.span(square, true) == -1 ? 1 : 0;
        }
        return squares;
    }

    private static void pitsThatFoundNothing() {
        GemPits x = new GemPits();
        x.sink(50);
        Check.same("12: a pit not washed tells nothing", x.span(50, true), 100);
        x.wash(0, 0);
        Check.same("12: a pit that found 0 tells it", x.span(50, true), 0);
        Check.same("12: and bounds the next", x.span(51, true), 20);
    }

    private static void sinking() {
        GemPits x = new GemPits();
        Check.same("8: the first", x.sink(0), 0);
        Check.same("8: where one is", x.sink(0), -1);
        Check.same("8: the second", x.sink(95), 1);
        Check.fails("8: no square 96", NO_SUCH, () -> x.sink(96));
        Check.fails("8: no square -1", NO_SUCH, () -> x.sink(-1));
        TapeText.law(x, "apart 3");
        Check.same("8: two steps apart", x.sink(2), -1);
        Check.same("8: two slanting steps apart", x.sink(26), -1);
        Check.same("8: three steps apart", x.sink(3), 2);
        x.fill(0);
        Check.same("8: where one was", x.sink(0), -1);
        Check.same("8: near a filled one, and three off the other", x.sink(12 * 3 + 1), 3);
        Check.same("24: pits", x.count(1), 4);
        Check.same("24: not filled", x.count(2), 3);
    }

    private static void thirtyPits() {
        GemPits x = new GemPits();
        for (int square = 0; square < 30; square++) {
            Check.same("8: pit " + square, x.sink(square), square);
        }
        Check.fails("8: a thirty-first", UnsupportedOperationException.class, () -> x.sink(40));
        Check.fails("8: where one is, of thirty", UnsupportedOperationException.class, () -> x.sink(4));
        Check.fails("8: no square comes first", NO_SUCH, () -> x.sink(96));
        Check.same("8: still thirty", x.count(1), 30);
        // The law lets a pit be sunk there, though there is no thirty-first.
        Check.same("13: best of thirty", x.best(), 30);
    }

    private static void washing() {
        GemPits x = new GemPits();
        Check.fails("9: no pit", NO_SUCH, () -> x.wash(0, 101) ? 1 : 0);
        x.sink(7);
        Check.fails("9: 101", WRONG, () -> x.wash(0, 101) ? 1 : 0);
        Check.fails("9: -1", WRONG, () -> x.wash(0, -1) ? 1 : 0);
        Check.fails("9: pit -1", NO_SUCH, () -> x.wash(-1, 5) ? 1 : 0);
        Check.same("9: not told yet", x.look(0, 2), -1);
        Check.same("9: told", x.wash(0, 100), true);
        Check.same("9: told once", x.wash(0, 3), false);
        Check.fails("9: 101 once told", WRONG, () -> x.wash(0, 101) ? 1 : 0);
        Check.same("9: stays", x.look(0, 2), 100);
        x.sink(8);
        x.fill(1);
        Check.same("9: a filled one", x.wash(1, 0), true);
        Check.same("9: 0 is told too", x.wash(1, 1), false);
        Check.same("9: found 0", x.look(1, 2), 0);
    }

    private static void filling() {
        GemPits x = new GemPits();
        Check.fails("10: no pit", NO_SUCH, () -> x.fill(0) ? 1 : 0);
        TapeText.law(x, "fill 10; bond 7");
        x.days(5);
        x.sink(1);
        x.sink(2);
        x.sink(3);
        Check.same("11: held", x.count(11), 21);
        Check.same("10: the same day", x.fill(0), true);
        Check.same("10: had back", x.look(0, 4), 0);
        x.days(10);
        Check.same("10: the last day", x.fill(1), true);
        Check.same("10: in time", x.look(1, 4), 0);
        Check.same("10: held on the last day", x.look(2, 4), 1);
        Check.same("24: held", x.count(11), 7);
        x.days(1);
        Check.same("10: lost", x.look(2, 4), 2);
        Check.same("24: lost ahead of its filling", x.count(12), 7);
        Check.same("10: too late", x.fill(2), true);
        Check.same("10: lost all the same", x.look(2, 4), 2);
        Check.same("24: lost", x.count(12), 7);
        Check.same("24: none held", x.count(11), 0);
        x.days(1);
        Check.same("10: filled once", x.fill(1), false);
        Check.same("10: its day stays", x.look(1, 3), 15);
        Check.same("24: all filled", x.count(2), 0);
    }

    private static void passingDays() {
        GemPits x = new GemPits();
        Check.same("11: none", x.days(0), 0);
        Check.same("11: 1000", x.days(1000), 1000);
        Check.fails("11: 1001", WRONG, () -> x.days(1001));
        Check.fails("11: -1", WRONG, () -> x.days(-1));
        Check.fails("11: least", WRONG, () -> x.days(Integer.MIN_VALUE));
        Check.same("11: 1999", x.days(999), 1999);
        Check.same("11: 2999", x.days(1000), 2999);
        Check.same("11: as far as it may go", x.days(1000), 3000);
        Check.same("24: today", x.count(0), 3000);
        TapeText.law(x, "bond 5;fill 1");
        x.sink(0);
        x.days(1000);
        Check.same("11: held for ever", x.look(0, 4), 1);
        Check.same("14: a day past the last", x.look(0, 5), 3001);
    }

    private static void bestSquare() {
        GemPits x = new GemPits();
        Check.same("13: at first", x.best(), 0);
        x.sink(0);
        Check.same("13: without a pit", x.best(), 1);
        x.wash(0, 100);
        Check.same("13: next to the gems", x.best(), 1);
        TapeText.law(x, "apart 4");
        // 4 steps off: 20 to 100, the greatest sum that the law lets be sunk.
        Check.same("13: by the law", x.best(), 4);
        x.fill(0);
        Check.same("13: where one was filled", x.best(), 1);
        GemPits y = new GemPits();
        y.sink(95);
        y.wash(0, 50);
        // All sums are 100: the greatest least end is next to the pit.
        Check.same("13: the greatest least end", y.best(), 12 * 6 + 10);
        GemPits z = new GemPits();
        TapeText.law(z, "apart 11");
        z.sink(5);
        Check.same("13: none that may be sunk", z.best(), -1);
        GemPits w = new GemPits();
        w.step(0);
        w.sink(0);
        w.sink(1);
        w.wash(0, 1);
        w.wash(1, 2);
        Check.same("13: none with a span", w.best(), -1);
        Check.same("24: none has a span", w.count(14), 96);
        Check.same("24: none has one amount", w.count(13), 0);
    }

    private static void looking() {
        GemPits x = new GemPits();
        Check.fails("14: no pit", NO_SUCH, () -> x.look(0, 6));
        x.days(3);
        x.sink(77);
        x.wash(0, 12);
        Check.same("14: square", x.look(0, 0), 77);
        Check.same("14: sunk", x.look(0, 1), 3);
        Check.same("14: found", x.look(0, 2), 12);
        Check.same("14: not filled", x.look(0, 3), -1);
        Check.same("14: no bond", x.look(0, 4), 0);
        Check.same("14: last day", x.look(0, 5), 1003);
        x.days(1000);
        x.days(1000);
        Check.same("14: no bond to lose", x.look(0, 4), 0);
        x.fill(0);
        Check.same("14: filled", x.look(0, 3), 2003);
        Check.fails("14: 6", java.util.NoSuchElementException.class, () -> x.look(0, 6));
        Check.fails("14: -1", java.util.NoSuchElementException.class, () -> x.look(0, -1));
        Check.fails("14: pit 1", NO_SUCH, () -> x.look(1, 0));
        Check.fails("14: pit -1", NO_SUCH, () -> x.look(-1, 9));
    }

    private static void bondsByTheLawOfTheirSinking() {
        GemPits x = new GemPits();
        TapeText.law(x, "bond 100000; fill 5");
        x.sink(0);
        TapeText.law(x, "bond 1; fill 9");
        x.sink(1);
        Check.same("5: the first one's fill", x.look(0, 5), 5);
        Check.same("5: the second one's fill", x.look(1, 5), 9);
        Check.same("24: both are held", x.count(11), 100001);
        x.days(6);
        Check.same("24: the first is lost", x.count(12), 100000);
        Check.same("24: the second is held", x.count(11), 1);
    }
}
