import java.io.IOException;
import java.nio.file.Files;
import java.nio.file.Path;
import java.util.NoSuchElementException;

/** Each sentence of the document that names a boundary case, in its own words and in its order, on both sides. */
public final class BoundaryTest {
    private static final Class<IndexOutOfBoundsException> NO_SUCH = IndexOutOfBoundsException.class;
    private static final Class<IllegalArgumentException> WRONG = IllegalArgumentException.class;
    private static final Class<NoSuchElementException> NO_WHAT = NoSuchElementException.class;
    private static final int LEAST = Integer.MIN_VALUE;
    private static final int GREATEST = Integer.MAX_VALUE;

    /** The sentence that the checks behind it belong to. */
    private static String sentence = "";
    private static String document = "";

    public static void main(String[] args) throws IOException {
        document = Files.readString(Path.of("../shared/DOC.md"));
        squares();
        pits();
        gravel();
        step();
        spans();
        best();
        lawBounds();
        lawApart();
        lawFillAndBond();
        lawAtFirst();
        agreementBounds();
        agreementAlike();
        hundredthsTogether();
        wordsAndBlanks();
        firstWrongByte();
        today();
        neverOne();
        lawAsItIsSunk();
        stones();
        costs();
        hands();
        costsFirst();
        roundedDown();
        lender();
        agreementAtTheSale();
        roughs();
        worths();
        fewest();
        newObject();
        tape();
        fault();
        bonds();
        counts();
        Check.close();
    }

    private static void says(String words) {
        sentence = words;
        Check.same("the document says: " + words, document.contains(words), true);
    }

    private static void same(String what, long got, long due) {
        Check.same(sentence + " [" + what + "]", got, due);
    }

    private static void same(String what, boolean got, boolean due) {
        Check.same(sentence + " [" + what + "]", got, due);
    }

    private static void fails(String what, Class<? extends RuntimeException> due, Check.Call call) {
        Check.fails(sentence + " [" + what + "]", due, call);
    }

    private static void squares() {
        says("SQUARES x 0 to 11, y 0 to 7; number 12 y + x; apart by king's steps.");
        for (int square : new int[] {-1, 96, LEAST, GREATEST}) {
            GemPits x = new GemPits();
            fails("sink " + square, NO_SUCH, () -> x.sink(square));
            fails("span " + square, NO_SUCH, () -> x.span(square, true));
        }
        int[] corners = {0, 11, 84, 95};
        // Steps from a corner to 0, 11, 84, 95, to the next row's first square and to the last row's 12th from it.
        int[][] steps = {{0, 11, 7, 11, 1, 1}, {11, 0, 11, 7, 11, 10}, {7, 11, 0, 11, 6, 6}, {11, 7, 11, 0, 11, 10}};
        int[] seen = {0, 11, 84, 95, 12, 13};
        for (int i = 0; i < corners.length; i++) {
            GemPits x = new GemPits();
            x.step(5);
            same("a corner " + corners[i], x.sink(corners[i]), 0);
            x.wash(0, 0);
            for (int k = 0; k < seen.length; k++) {
                same(corners[i] + " to " + seen[k], x.span(seen[k], true), 5 * steps[i][k]);
            }
        }
    }

    private static void pits() {
        says("PITS (at most 30, numbered from 0 on)");
        GemPits x = new GemPits();
        for (int pit = 0; pit < 30; pit++) {
            fails("no pit " + pit + " yet", NO_SUCH, () -> x.look(x.count(1), 0));
            same("pit", x.sink(95 - pit), pit);
        }
        same("the thirtieth", x.look(29, 0), 66);
        fails("a thirty-first", UnsupportedOperationException.class, () -> x.sink(0));
        x.fill(0);
        fails("filled ones are pits too", UnsupportedOperationException.class, () -> x.sink(0));
        same("no more than 30", x.count(1), 30);
        for (int pit : new int[] {-1, 30, LEAST, GREATEST}) {
            fails("wash " + pit, NO_SUCH, () -> x.wash(pit, 0) ? 1 : 0);
            fails("fill " + pit, NO_SUCH, () -> x.fill(pit) ? 1 : 0);
            fails("look " + pit, NO_SUCH, () -> x.look(pit, 0));
            fails("stone " + pit, NO_SUCH, () -> x.stone(pit, 0));
        }
    }

    private static void gravel() {
        says("FOUND: how much gravel lies there (0 to 100), once it is washed");
        GemPits x = new GemPits();
        x.sink(3);
        x.sink(4);
        same("not washed", x.look(0, 2), -1);
        for (int gravel : new int[] {-1, 101, LEAST, GREATEST}) {
            fails("gravel " + gravel, WRONG, () -> x.wash(0, gravel) ? 1 : 0);
        }
        same("the least", x.wash(0, 0), true);
        same("the greatest", x.wash(1, 100), true);
        same("found 0", x.look(0, 2), 0);
        same("found 100", x.look(1, 2), 100);
        says("What a PIT FOUND: true; false, and nothing happens, if that was told.");
        same("0 was told", x.wash(0, 100), false);
        same("100 was told", x.wash(1, 0), false);
        same("still 0", x.look(0, 2), 0);
        same("still 100", x.look(1, 2), 100);
        fails("told, and not 0 to 100", WRONG, () -> x.wash(1, 101) ? 1 : 0);
    }

    private static void step() {
        says("STEP (0 to 100; 20 at first)");
        GemPits y = new GemPits();
        y.sink(0);
        y.wash(0, 0);
        same("at first", y.span(2, true), 40);
        for (int n : new int[] {-1, 101, LEAST, GREATEST}) {
            fails("step " + n, WRONG, () -> stepOf(y, n));
        }
        y.step(0);
        same("the least", y.span(11, true), 0);
        y.step(1);
        same("one", y.span(11, true), 11);
        same("none of the old step is left", y.span(11, false), 0);
        y.step(100);
        same("the greatest", y.span(1, true), 100);
        same("the pit's own square", y.span(0, true), 0);
        GemPits z = new GemPits();
        z.sink(0);
        z.wash(0, 100);
        z.step(0);
        same("the least, downwards", z.span(11, false), 100);
        z.step(1);
        same("one, downwards", z.span(11, false), 89);
    }

    private static long stepOf(GemPits x, int n) {
        x.step(n);
        return 0;
    }

    private static void spans() {
        says("SPAN of a SQUARE: the least and the greatest amount (0 to 100) that lies there");
        GemPits x = new GemPits();
        same("without a pit, least", x.span(95, false), 0);
        same("without a pit, greatest", x.span(95, true), 100);
        x.sink(0);
        x.wash(0, 80);
        same("up to 100 by the bound itself", x.span(1, true), 100);
        same("not above 100", x.span(2, true), 100);
        same("down to 0 by the bound itself", x.span(4, false), 0);
        same("not below 0", x.span(5, false), 0);
        same("one above 0", x.span(3, false), 20);
        says("as far as all PITS that FOUND something let; none, if no amount does.");
        GemPits y = new GemPits();
        y.sink(0);
        y.sink(2);
        y.wash(0, 30);
        y.wash(1, 70);
        same("one amount is let", y.span(1, false), 50);
        same("one amount is let, greatest", y.span(1, true), 50);
        // As one king's way from the one pit to the other goes by 1 or 13.
        same("so are four squares", y.count(13), 4);
        y.step(19);
        same("none is, by two", y.span(1, false), -1);
        same("none is, greatest", y.span(1, true), -1);
        // Three pits narrow one square one behind the other, from both sides.
        GemPits z = new GemPits();
        z.step(10);
        z.sink(0);
        z.sink(4);
        z.sink(6);
        z.wash(0, 40);
        same("by one", z.span(2, false) * 1000 + z.span(2, true), 20060);
        z.wash(1, 50);
        same("by two", z.span(2, false) * 1000 + z.span(2, true), 30060);
        z.wash(2, 15);
        same("by three", z.span(2, false) * 1000 + z.span(2, true), 30055);
        same("not let everywhere", z.span(5, true), -1);
    }

    private static void best() {
        says("BEST: of all SQUARES without a PIT that may be sunk, and have a SPAN");
        GemPits x = new GemPits();
        for (int square = 0; square < 29; square++) {
            same("the least number without a pit", x.best(), square);
            x.sink(square);
        }
        GemPits none = new GemPits();
        TapeText.law(none, "apart 11");
        none.sink(0);
        same("just far enough", none.best(), 11);
        none.fill(0);
        same("a filled one does not matter", none.best(), 1);
        none.sink(6);
        same("none is far enough", none.best(), -1);
        GemPits low = new GemPits();
        low.step(0);
        low.sink(40);
        low.wash(0, 0);
        same("a sum of 0 is one", low.best(), 0);
        low.sink(0);
        low.wash(1, 1);
        same("none has a span", low.best(), -1);
        says("of several that with the greatest least end, of these the least number.");
        GemPits y = new GemPits();
        y.sink(40);
        y.wash(0, 50);
        same("sums are alike", y.best(), 27);
        GemPits w = new GemPits();
        w.step(10);
        w.sink(94);
        w.wash(0, 100);
        // 82 at one step and 92 behind the pit have 90 to 100, as have 81, 83, 93 and 95.
        same("of these the least number", w.best(), 81);
    }

    private static void lawBounds() {
        says("apart NUMBER (0 to 11: a PIT is sunk at least so many steps");
        right(x -> TapeText.law(x, "apart 0"), 1);
        right(x -> TapeText.law(x, "apart 11"), 1);
        wrongLaw("apart 12", 6);
        wrongLaw("apart 999999", 6);
        says("fill NUMBER (1 to 1000: a PIT is to be filled so many days behind its sinking");
        right(x -> TapeText.law(x, "fill 1"), 1);
        right(x -> TapeText.law(x, "fill 1000"), 1);
        wrongLaw("fill 0", 5);
        wrongLaw("fill 000000", 5);
        wrongLaw("fill 1001", 5);
        says("bond NUMBER (0 to 100000: paid as it is sunk");
        right(x -> TapeText.law(x, "bond 0"), 1);
        right(x -> TapeText.law(x, "bond 100000"), 1);
        wrongLaw("bond 100001", 5);
        says("A NUMBER: 1 to 6 digits.");
        right(x -> TapeText.law(x, "bond 000000"), 1);
        right(x -> TapeText.law(x, "fill 000001"), 1);
        wrongLaw("bond 0000000", 5);
        wrongLaw("bond 4294967296", 5);
        wrongLaw("fill 4294967297", 5);
        wrongLaw("bond 18446744073709551617", 5);
        wrongLaw("bond", 4);
        wrongLaw("bond ;", 5);
        wrongLaw("bond +1", 5);
        wrongLaw("bond 1 0", 7);
    }

    private static void lawApart() {
        says("at least so many steps from each other one that is not filled");
        for (int apart = 1; apart <= 11; apart++) {
            GemPits x = new GemPits();
            TapeText.law(x, apart < 10 ? "apart " + (char) ('0' + apart) : "apart 1" + (char) ('0' + apart - 10));
            x.sink(0);
            same("one step less than " + apart, x.sink(apart - 1), -1);
            same("just " + apart, x.sink(apart), 1);
        }
        GemPits y = new GemPits();
        TapeText.law(y, "apart 7");
        y.sink(0);
        same("six rows", y.sink(72), -1);
        same("seven rows", y.sink(84), 1);
        same("far from the one, near the other", y.sink(85), -1);
        y.fill(1);
        same("the near one is filled", y.sink(85), 2);
    }

    private static void lawFillAndBond() {
        says("a PIT is to be filled so many days behind its sinking, at the latest");
        GemPits x = new GemPits();
        TapeText.law(x, "fill 1;bond 3");
        x.days(7);
        x.sink(0);
        x.sink(1);
        x.sink(2);
        same("the last day", x.look(0, 5), 8);
        x.days(1);
        x.fill(0);
        same("filled on it", x.look(0, 4), 0);
        says("A PIT is filled TODAY: true; false, and nothing happens, if it was.");
        same("on its day", x.look(0, 3), 8);
        same("not yet", x.look(1, 3), -1);
        same("it was, the same day", x.fill(0), false);
        says("had back as it is filled in time; lost, once that is past");
        same("not past on the last day", x.look(1, 4), 1);
        x.days(1);
        same("past a day later", x.look(1, 4), 2);
        same("it was, the day ahead", x.fill(0), false);
        same("its day stays", x.look(0, 3), 8);
        same("it was not", x.fill(1), true);
        same("filled too late", x.look(1, 4), 2);
        same("had back stays so", x.look(0, 4), 0);
        same("never filled", x.look(2, 4), 2);
        same("money that is lost", x.count(12), 6);
        same("money that is held", x.count(11), 0);
    }

    private static void lawAtFirst() {
        says("At first 0, 1000, 0; what a text does not tell stays; of two alike the later one counts.");
        GemPits x = new GemPits();
        x.sink(0);
        same("apart at first", x.sink(1), 1);
        same("fill at first", x.look(0, 5), 1000);
        x.days(1000);
        x.days(1);
        same("bond at first", x.look(0, 4), 0);
        GemPits y = new GemPits();
        TapeText.law(y, "apart 3;fill 4;bond 5");
        TapeText.law(y, "fill 7");
        y.sink(0);
        same("apart stays", y.sink(2), -1);
        same("bond stays", y.count(11), 5);
        same("fill is told", y.look(0, 5), 7);
        TapeText.law(y, "bond 6");
        y.sink(3);
        same("fill stays", y.look(1, 5), 7);
        same("bond is told", y.count(11), 11);
        TapeText.law(y, "apart 11;bond 100000;bond 0;apart 1;fill 9;fill 1000");
        same("the later apart", y.sink(1), 2);
        same("the later bond", y.count(11), 11);
        same("the later fill", y.look(2, 5), 1000);
    }

    private static void agreementBounds() {
        says("hundredths 0 to 100; until: 0 to 999999, money in all");
        String[] words = {"land", "licence", "diggers", "pump"};
        for (String word : words) {
            int at = word.length() + 1;
            right(x -> TapeText.agreement(x, word + " 0"), 1);
            right(x -> TapeText.agreement(x, word + " 100"), 1);
            right(x -> TapeText.agreement(x, word + "000100"), 1);
            wrongAgreement(word + " 101", at);
            wrongAgreement(word + " 999999", at);
            wrongAgreement(word + " 0000000", at);
            wrongAgreement(word + " ", at);
            wrongAgreement(word + " x", at);
            wrongAgreement(word + "s 5", 0);
        }
        right(x -> TapeText.agreement(x, "lender 0 until 0"), 1);
        right(x -> TapeText.agreement(x, "lender 100 until 999999"), 1);
        wrongAgreement("lender 101 until 5", 7);
        wrongAgreement("lender 1 until 1000000", 15);
        wrongAgreement("lender 1 until 0000000", 15);
        GemPits most = sold("lender 100 until 999999", 0, 1000000);
        same("the greatest until", most.part(0, 7), 999999);
        same("one is left over", most.part(0, 8), 1);
        same("the least until", sold("lender 100 until 0", 0, 1000000).part(0, 7), 0);
    }

    private static void agreementAlike() {
        says("What it does not tell is 0, and not first; of two alike the later one counts");
        String[] words = {"land 40;land 30", "licence 40;licence 30", "lender 40 until 50;lender 30 until 20",
            "diggers 40;diggers 30", "pump 40;pump 30", "costs first;costs first"};
        int[][] shares = {{0, 30, 0, 0, 70, 0}, {0, 0, 30, 0, 70, 0}, {0, 0, 0, 20, 80, 0}, {0, 0, 0, 0, 100, 0},
            {0, 0, 0, 0, 70, 30}, {9, 0, 0, 0, 91, 0}};
        for (int i = 0; i < words.length; i++) {
            shares(words[i], sold(words[i], 9, 100), shares[i]);
        }
        shares("a lender with more time", sold("lender 30 until 20;lender 40 until 50", 9, 100), 0, 0, 0, 40, 60, 0);
        // The later one alone counts for the hundred too: all of these would be too much if both did.
        right(x -> TapeText.agreement(x, "diggers 100;pump 100;diggers 0"), 3);
        right(x -> TapeText.agreement(x, "lender 100 until 5;land 40;lender 60 until 5"), 3);
        right(x -> TapeText.agreement(x, "pump 60;licence 100;licence 40"), 3);
        right(x -> TapeText.agreement(x, "pump 100;pump 100;pump 100"), 3);
        GemPits x = sold("costs first;land 50", 9, 100);
        TapeText.agreement(x, "pump 10");
        x.lay(7);
        x.stone(0, 0);
        sell(x, 1, 100);
        Check.same("not first", x.part(1, 4), 0);
        Check.same("land is 0", x.part(1, 5), 0);
    }

    private static void hundredthsTogether() {
        says("all hundredths together must be 100 at most (if not: wrong at the text's length).");
        right(x -> TapeText.agreement(x, "land 20;licence 20;lender 20 until 5;diggers 20;pump 20"), 5);
        String[] over = {"land 21;licence 20;lender 20 until 5;diggers 20;pump 20",
            "land 20;licence 21;lender 20 until 5;diggers 20;pump 20",
            "land 20;licence 20;lender 21 until 5;diggers 20;pump 20",
            "land 20;licence 20;lender 20 until 5;diggers 21;pump 20",
            "land 20;licence 20;lender 20 until 5;diggers 20;pump 21"};
        for (String text : over) {
            wrongAgreement(text, text.length());
            wrongAgreement(text + "   ", text.length() + 3);
        }
        wrongAgreement("land 100;licence 100;lender 100 until 1;diggers 100;pump 100", 60);
        wrongAgreement("land 0;land 1;pump 100", 22);
        wrongAgreement("land 60;pump 41;x", 16);
        right(x -> TapeText.agreement(x, "lender 1 until 999999;pump 99"), 2);
    }

    private static void wordsAndBlanks() {
        says("words are as long as a to z go on; between all there may be blanks (32), also ahead and behind.");
        right(x -> TapeText.law(x, "  apart  0  ;  fill  1  ;  bond  0  "), 3);
        right(x -> TapeText.law(x, "apart0;fill1;bond0"), 3);
        right(x -> TapeText.agreement(x, "  costs  first  ;  lender  1  until  2  "), 2);
        right(x -> TapeText.agreement(x, "costs first;lender1until2"), 2);
        wrongAgreement("costsfirst", 0);
        wrongAgreement("costs firstland 1", 6);
        wrongAgreement("lender 1 untilx 2", 9);
        wrongLaw("apart`0", 5);
        wrongLaw("apart{0", 5);
        wrongLaw("apartz0", 0);
        wrongLaw("aparta0", 0);
        wrongLaw("bpart 0", 0);
        wrongLaw("apars 0", 0);
        wrongLaw("apart\u001f0", 5);
        wrongLaw("apart!0", 5);
        wrongLaw("apart\u00a00", 5);
        wrongLaw("apart 0/", 7);
        wrongLaw("apart 0:", 7);
        wrongLaw("apart 0<", 7);
        wrongLaw("\0apart 0", 0);
        wrongLaw("apart 0\0", 7);
        wrongLaw("apart 0\u00ff", 7);
        wrongLaw("app art 0", 0);
        right(x -> TapeText.law(x, "bond0;".repeat(66).substring(0, 395)), 66);
        right(x -> TapeText.law(x, " ".repeat(394) + "bond 0"), 1);
        right(x -> TapeText.law(x, "bond 0" + " ".repeat(394)), 1);
        right(x -> TapeText.agreement(x, "pump0;".repeat(66).substring(0, 395)), 66);
        wrongLaw("bond0;".repeat(66), 396);
        wrongLaw("bond0;".repeat(66) + "bond", 400);
        wrongLaw(" ".repeat(400), 400);
    }

    private static void firstWrongByte() {
        says("The first wrong byte: the begin of the first thing that cannot stand there");
        wrongLaw("fill 5fill 6", 6);
        wrongLaw("fill fill 5", 5);
        wrongLaw("fill 5  6", 8);
        wrongLaw("  ;", 2);
        wrongLaw("fill 5;;", 7);
        wrongLaw("5", 0);
        wrongLaw("costs first", 0);
        wrongAgreement("bond 5", 0);
        wrongAgreement("lender 5 until until", 15);
        wrongAgreement("lender 5;land 1", 8);
        wrongAgreement("costs 5", 6);
        wrongAgreement("costs first 5", 12);
        wrongAgreement("first costs", 0);
        says("(a NUMBER of more than 6 digits, or out of its bounds; a word that is none)");
        wrongLaw("bond 1;fill  1234567", 13);
        wrongLaw("bond 1;  fill  1001;x", 15);
        wrongLaw("bond 1;  filler 1", 9);
        wrongLaw("bond 1;  fil", 9);
        wrongAgreement("costs  firs", 7);
        says("or the text's length, if more must come.");
        wrongLaw("", 0);
        wrongLaw(" ", 1);
        wrongLaw("fill", 4);
        wrongLaw("fill ", 5);
        wrongLaw("fill 5;", 7);
        wrongLaw("fill 5 ; ", 9);
        wrongAgreement("", 0);
        wrongAgreement("costs", 5);
        wrongAgreement("costs  ", 7);
        wrongAgreement("lender", 6);
        wrongAgreement("lender 5 ", 9);
        wrongAgreement("lender 5 until ", 15);
        wrongAgreement("land 5 ;", 8);
    }

    private static void today() {
        says("TODAY is 0 at first, 3000 at last.");
        GemPits x = new GemPits();
        same("at first", x.count(0), 0);
        x.days(1000);
        x.days(1000);
        same("the day ahead of the last", x.days(999), 2999);
        same("the last by one", x.days(1), 3000);
        same("none behind it", x.days(1), 3000);
        same("none by many", x.days(1000), 3000);
        x.sink(0);
        same("sunk at last", x.look(0, 1), 3000);
        same("to be filled behind the last day", x.look(0, 5), 4000);
        x.fill(0);
        same("filled at last", x.look(0, 3), 3000);
        says("So many days, as far as TODAY may go: TODAY. IllegalArgumentException: not 0 to 1000.");
        GemPits y = new GemPits();
        same("0", y.days(0), 0);
        same("1000", y.days(1000), 1000);
        for (int n : new int[] {-1, 1001, LEAST, GREATEST}) {
            fails("days " + n, WRONG, () -> y.days(n));
        }
        y.days(1000);
        y.days(1000);
        fails("1001 at last", WRONG, () -> y.days(1001));
        fails("the greatest wraps round", WRONG, () -> y.days(GREATEST));
        GemPits z = new GemPits();
        z.days(1000);
        z.days(1000);
        z.days(1);
        same("1000 from 2001 on", z.days(1000), 3000);
    }

    private static void neverOne() {
        says("A PIT may be sunk where there was never one, as far from others as THE LAW says now.");
        GemPits x = new GemPits();
        x.sink(50);
        same("where one is", x.sink(50), -1);
        x.fill(0);
        same("where one was", x.sink(50), -1);
        same("it was not sunk", x.count(1), 1);
        TapeText.law(x, "apart 5");
        same("a filled one keeps none away", x.sink(51), 1);
        same("as the law says now", x.sink(53), -1);
        TapeText.law(x, "apart 2");
        same("as a later law says", x.sink(53), 2);
        TapeText.law(x, "apart 11");
        same("as a harder law says", x.sink(59), -1);
    }

    private static void lawAsItIsSunk() {
        says("Its fill and bond are those of THE LAW as it is sunk.");
        GemPits x = new GemPits();
        TapeText.law(x, "fill 5;bond 10");
        x.sink(0);
        TapeText.law(x, "fill 1;bond 0");
        x.sink(1);
        TapeText.law(x, "fill 1000;bond 7");
        x.sink(2);
        same("the first one's day", x.look(0, 5), 5);
        same("the second one's day", x.look(1, 5), 1);
        same("the third one's day", x.look(2, 5), 1000);
        same("held", x.count(11), 17);
        same("no bond", x.look(1, 4), 0);
        x.days(6);
        same("the first is lost", x.look(0, 4), 2);
        same("there is none to lose", x.look(1, 4), 0);
        same("the third is held", x.look(2, 4), 1);
    }

    private static void stones() {
        says("STONES (at most 60, numbered from 0 on): of a PIT that FOUND something, and of a basket (0 to 99).");
        GemPits x = new GemPits();
        x.sink(0);
        x.sink(1);
        x.sink(2);
        x.wash(0, 1);
        x.wash(1, 0);
        fails("found nothing yet", IllegalStateException.class, () -> x.stone(2, 0));
        fails("found 0", IllegalStateException.class, () -> x.stone(1, 0));
        for (int basket : new int[] {-1, 100, LEAST, GREATEST}) {
            fails("basket " + basket, WRONG, () -> x.stone(0, basket));
            fails("basket ahead of the pit that found 0 " + basket, WRONG, () -> x.stone(1, basket));
        }
        same("the least basket, of a pit that found 1", x.stone(0, 0), 0);
        same("the greatest basket", x.stone(0, 99), 1);
        for (int stone = 2; stone < 60; stone++) {
            same("stone", x.stone(0, stone), stone);
        }
        fails("a sixty-first", UnsupportedOperationException.class, () -> x.stone(0, 0));
        same("60", x.count(3), 60);
        same("the sixtieth", x.part(59, 1), 59);
        for (int stone : new int[] {-1, 60, LEAST, GREATEST}) {
            fails("hand for " + stone, NO_SUCH, () -> x.hand(stone, 0, 0) ? 1 : 0);
            fails("sell " + stone, NO_SUCH, () -> x.sell(stone, 0));
            fails("part of " + stone, NO_SUCH, () -> x.part(stone, 0));
        }
    }

    private static void costs() {
        says("COSTS: money that was laid out (each 0 to 100000) and not yet had back.");
        GemPits x = new GemPits();
        same("none", x.lay(0), 0);
        same("the greatest", x.lay(100000), 100000);
        for (int money : new int[] {-1, 100001, LEAST, GREATEST}) {
            fails("lay " + money, WRONG, () -> x.lay(money));
        }
        same("as they were", x.count(5), 100000);
        says("it is not 0 to 100000, or COSTS would be above 10000000.");
        for (int i = 2; i < 100; i++) {
            x.lay(100000);
        }
        same("99 times and one less", x.lay(99999), 9999999);
        fails("one above", WRONG, () -> x.lay(2));
        same("just 10000000", x.lay(1), 10000000);
        fails("full", WRONG, () -> x.lay(1));
        same("nothing is let", x.lay(0), 10000000);
        x.sink(0);
        x.wash(0, 1);
        x.stone(0, 0);
        TapeText.agreement(x, "costs first");
        sell(x, 0, 1);
        same("room once it is had back", x.lay(1), 10000000);
    }

    private static void hands() {
        says("HANDS of buyers 0 to 5 (0 to 1000000 each; the latest one of each counts; none at first)");
        GemPits x = withStones(4);
        same("none at first, not even of 0", x.sell(0, 0), -1);
        for (int buyer : new int[] {-1, 6, LEAST, GREATEST}) {
            fails("buyer " + buyer, NO_SUCH, () -> x.hand(0, buyer, 5) ? 1 : 0);
        }
        for (int money : new int[] {-1, 1000001, LEAST, GREATEST}) {
            fails("hand " + money, WRONG, () -> x.hand(0, 0, money) ? 1 : 0);
        }
        same("still none", x.sell(0, 0), -1);
        same("the first buyer", x.hand(0, 0, 0), true);
        same("the last buyer", x.hand(0, 5, 1000000), true);
        same("the latest counts, if lower too", x.hand(0, 5, 0), true);
        same("no hand above 0 is left", x.sell(0, 1), -1);
        same("a hand of 0 for a limit of 0", x.sell(0, 0), 0);
        same("for that hand", x.part(0, 3), 0);
        says("to the greatest HAND that is not below the LIMIT, of several the least number, for that HAND.");
        for (int buyer = 0; buyer < 6; buyer++) {
            x.hand(1, buyer, 100 + buyer);
        }
        same("one above all", x.sell(1, 106), -1);
        same("the greatest of six that rise", x.sell(1, 105), 5);
        same("its price, not the limit", x.part(1, 3), 105);
        for (int buyer = 5; buyer > 0; buyer--) {
            x.hand(2, buyer, buyer > 3 ? 60 : 70);
        }
        same("of several the least number", x.sell(2, 0), 1);
        same("the hand", x.part(2, 3), 70);
        says("a LIMIT (0 to 1000000) of the seller");
        for (int limit : new int[] {-1, 1000001, LEAST, GREATEST}) {
            fails("limit " + limit, WRONG, () -> x.sell(3, limit));
        }
        x.hand(3, 2, 999999);
        same("the greatest limit, one below", x.sell(3, 1000000), -1);
        x.hand(3, 4, 1000000);
        same("the greatest limit", x.sell(3, 1000000), 4);
        says("A SALE of a STONE (once)");
        same("sold already", x.sell(3, 0), -1);
        same("no hand any more", x.hand(3, 0, 1000000), false);
        same("the buyer stays", x.part(3, 2), 4);
        same("the price stays", x.part(3, 3), 1000000);
        same("sold", x.count(4), 4);
    }

    private static void costsFirst() {
        says("COSTS are had back first, as far as it goes");
        shares("less than the price", sold("costs first", 99, 100), 99, 0, 0, 0, 1, 0);
        shares("just the price", sold("costs first", 100, 100), 100, 0, 0, 0, 0, 0);
        shares("more than the price", sold("costs first", 101, 100), 100, 0, 0, 0, 0, 0);
        shares("none laid out", sold("costs first", 0, 100), 0, 0, 0, 0, 100, 0);
        shares("a price of 0", sold("costs first;land 100", 5, 0), 0, 0, 0, 0, 0, 0);
        same("what is left of costs", sold("costs first", 101, 100).count(5), 1);
        same("nothing is left of costs", sold("costs first", 100, 100).count(5), 0);
        same("not first: all of it", sold("land 100", 101, 100).count(5), 101);
    }

    private static void roundedDown() {
        says("have their hundredths, each rounded down");
        shares("99 of 1", sold("land 99", 0, 1), 0, 0, 0, 0, 1, 0);
        shares("100 of 1", sold("land 100", 0, 1), 0, 1, 0, 0, 0, 0);
        shares("1 of 99", sold("licence 1", 0, 99), 0, 0, 0, 0, 99, 0);
        shares("1 of 100", sold("licence 1", 0, 100), 0, 0, 1, 0, 99, 0);
        shares("1 of 199", sold("pump 1", 0, 199), 0, 0, 0, 0, 198, 1);
        shares("of what is left", sold("costs first;pump 50", 1, 100), 1, 0, 0, 0, 50, 49);
        says("all that is left over goes to the diggers.");
        shares("what is lost by rounding", sold("land 25;licence 25;lender 25 until 99;pump 25", 0, 7),
                0, 1, 1, 1, 3, 1);
        shares("beside their own", sold("land 25;diggers 25", 0, 7), 0, 1, 0, 0, 6, 0);
        shares("the greatest price", sold("land 99;pump 1", 0, 1000000), 0, 990000, 0, 0, 0, 10000);
    }

    private static void lender() {
        says("the lender not more than what is lacking to until in all that it had (by this AGREEMENT or others)");
        shares("one less than until", sold("lender 50 until 51", 0, 100), 0, 0, 0, 50, 50, 0);
        shares("just until", sold("lender 50 until 50", 0, 100), 0, 0, 0, 50, 50, 0);
        shares("one more than until", sold("lender 50 until 49", 0, 100), 0, 0, 0, 49, 51, 0);
        GemPits x = sold("lender 50 until 50", 0, 100);
        x.stone(0, 0);
        x.stone(0, 0);
        x.stone(0, 0);
        sell(x, 1, 100);
        same("nothing is lacking", x.part(1, 7), 0);
        TapeText.agreement(x, "lender 100 until 49");
        sell(x, 2, 100);
        same("it had more by another", x.part(2, 7), 0);
        TapeText.agreement(x, "lender 100 until 51");
        sell(x, 3, 100);
        same("one is lacking", x.part(3, 7), 1);
        same("all that it had", x.count(8), 51);
    }

    private static void agreementAtTheSale() {
        says("(By THE AGREEMENT as it is at the SALE; without one all goes to the diggers.)");
        GemPits x = withStones(1);
        x.lay(5);
        sell(x, 0, 1000000);
        shares("without one", x, 0, 0, 0, 0, 1000000, 0);
        GemPits y = withStones(1);
        TapeText.agreement(y, "land 100");
        y.hand(0, 0, 10);
        TapeText.agreement(y, "pump 100");
        y.sell(0, 0);
        TapeText.agreement(y, "licence 100");
        shares("as it is at the sale", y, 0, 0, 0, 0, 0, 10);
        GemPits z = withStones(1);
        fails("a wrong one is none", WRONG, () -> TapeText.agreement(z, "land 100;x"));
        sell(z, 0, 10);
        shares("still without one", z, 0, 0, 0, 0, 10, 0);
    }

    private static void roughs() {
        says("A ROUGH: 1 to 10 wide, 1 to 8 high, cells with flaws.");
        GemPits x = new GemPits();
        int[][] sizes = {{1, 1}, {10, 1}, {1, 8}, {10, 8}};
        for (int[] size : sizes) {
            x.rough(size[0], size[1]);
            int cells = size[0] * size[1];
            same("all cells " + cells, x.most(), cells * cells);
            same("the last cell of " + cells, x.flaw(size[0] - 1, size[1] - 1, true), true);
            fails("no such column", NO_SUCH, () -> x.flaw(size[0], 0, true) ? 1 : 0);
            fails("no such row", NO_SUCH, () -> x.flaw(0, size[1], true) ? 1 : 0);
            fails("column -1", NO_SUCH, () -> x.flaw(-1, 0, true) ? 1 : 0);
            fails("row -1", NO_SUCH, () -> x.flaw(0, -1, true) ? 1 : 0);
            fails("column and row wrap round", NO_SUCH, () -> x.flaw(LEAST, GREATEST, true) ? 1 : 0);
        }
        int[][] none = {{0, 1}, {1, 0}, {11, 1}, {1, 9}, {-1, 1}, {1, -1}, {LEAST, 1}, {1, GREATEST}, {65537, 65537}};
        for (int[] size : none) {
            fails("size " + size[0] + " " + size[1], WRONG, () -> roughOf(x, size[0], size[1]));
        }
        same("the last one stays, with its flaw", x.flaw(9, 7, true), false);
        says("A ROUGH without flaws.");
        same("a flaw counts", x.most(), 5233);
        x.rough(10, 8);
        same("none counts", x.most(), 6400);
        same("none is to be cut off", x.cuts(), 0);
        for (int cell = 0; cell < 80; cell++) {
            same("no flaw at " + cell, x.flaw(cell % 10, cell / 10, false), false);
        }
        says("A cell of the ROUGH has a flaw, or not: whether it was otherwise.");
        same("it had none", x.flaw(3, 3, true), true);
        same("it has one", x.flaw(3, 3, true), false);
        same("it had one", x.flaw(3, 3, false), true);
        same("it has none", x.flaw(3, 3, false), false);
    }

    private static long roughOf(GemPits x, int wide, int high) {
        x.rough(wide, high);
        return 0;
    }

    private static void worths() {
        says("A piece without a flaw is worth the square of its cells; one with a flaw nothing.");
        GemPits x = new GemPits();
        same("one cell", x.most(), 1);
        x.flaw(0, 0, true);
        same("one flaw", x.most(), 0);
        same("nothing to cut", x.cuts(), 0);
        x.rough(10, 8);
        for (int cell = 0; cell < 80; cell++) {
            x.flaw(cell % 10, cell / 10, true);
        }
        same("all flaws", x.most(), 0);
        same("all flaws: no cut", x.cuts(), 0);
        x.flaw(9, 7, false);
        same("the last cell alone", x.most(), 1);
        same("two cuts free it", x.cuts(), 2);
        x.flaw(9, 7, true);
        x.flaw(4, 4, false);
        same("a cell in the middle", x.most(), 1);
        same("four cuts free it", x.cuts(), 4);
    }

    private static void fewest() {
        says("FEWEST: of these the least number of CUTS.");
        GemPits x = new GemPits();
        x.rough(10, 1);
        same("whole: none", x.cuts(), 0);
        x.flaw(0, 0, true);
        same("a flaw at one end: one", x.cuts(), 1);
        same("nine are left", x.most(), 81);
        x.flaw(9, 0, true);
        same("flaws at both ends: two", x.cuts(), 2);
        x.flaw(1, 0, true);
        // The two flaws at the left end need not be parted from one another.
        same("two flaws side by side: no cut more", x.cuts(), 2);
        same("seven are left", x.most(), 49);
        GemPits y = new GemPits();
        y.rough(10, 8);
        for (int cell = 0; cell < 80; cell++) {
            y.flaw(cell % 10, cell / 10, (cell % 10 + cell / 10) % 2 == 0);
        }
        same("every other cell", y.most(), 40);
        same("each cell alone", y.cuts() <= 79, true);
        GemPits z = new GemPits();
        z.rough(1, 8);
        z.flaw(0, 3, true);
        same("rows: a flaw between", z.most(), 9 + 16);
        same("rows: two cuts", z.cuts(), 2);
    }

    private static void newObject() {
        says("No PITS; THE LAW as at first, no AGREEMENT; a ROUGH of one cell without a flaw.");
        GemPits x = new GemPits();
        same("no pits", x.count(1), 0);
        fails("no pit 0", NO_SUCH, () -> x.look(0, 0));
        fails("no stone 0", NO_SUCH, () -> x.part(0, 0));
        same("one cell", x.flaw(0, 0, false), false);
        fails("no cell beside it", NO_SUCH, () -> x.flaw(1, 0, false) ? 1 : 0);
        fails("no cell below it", NO_SUCH, () -> x.flaw(0, 1, false) ? 1 : 0);
        same("its worth", x.most(), 1);
        same("its cuts", x.cuts(), 0);
        same("an empty tape", x.end(1), false);
        same("an empty tape has its first 0", x.end(0), true);
        GemPits other = new GemPits();
        other.sink(4);
        other.flaw(0, 0, true);
        same("objects are apart", x.count(1), 0);
        same("objects are apart, rough", x.most(), 1);
    }

    private static void tape() {
        says("Twenty bytes come behind the TAPE, of each number the highest first: how many it has");
        GemPits x = new GemPits();
        same("the first twenty", x.feed(-1, LEAST, GREATEST, 0, 0x80808080), 20);
        fails("bytes above 127 are bytes", WRONG, () -> x.law());
        same("the first of them", x.fault(), 0);
        TapeText.lay(x, "bond 7;fill");
        // What end cut off does not come back.
        same("behind what is left", x.feed(0x20363b62, 0x6f6e6420, 0x38202020, 0x20202020, 0x20202020), 31);
        same("three terms", x.law(), 3);
        x.sink(0);
        same("bond 8", x.count(11), 8);
        same("fill 6", x.look(0, 5), 6);
        says("NONE, and none come, if it would have more than 400.");
        GemPits y = new GemPits();
        for (int bytes = 20; bytes <= 400; bytes += 20) {
            same("as far as 400", y.feed(0x20202020, 0x20202020, 0x20202020, 0x20202020, 0x20202020), bytes);
        }
        same("420", y.feed(0x62626262, 0x62626262, 0x62626262, 0x62626262, 0x62626262), -1);
        same("401 are not there", y.end(401), false);
        same("400 are", y.end(400), true);
        same("381", y.end(381), true);
        same("401", y.feed(0, 0, 0, 0, 0), -1);
        same("none of the twenty came", y.end(382), false);
        same("380", y.end(380), true);
        same("just 400", y.feed(0x626f6e64, 0x20322020, 0x20202020, 0x20202020, 0x20202020), 400);
        same("all 400 are read", y.law(), 1);
        same("used up", y.feed(0, 0, 0, 0, 0), 20);
        says("true; false, and nothing happens, if it has fewer, or n is below 0.");
        for (int n : new int[] {-1, 21, 400, LEAST, GREATEST}) {
            same("end " + n, y.end(n), false);
        }
        same("still twenty", y.end(20), true);
        same("nineteen", y.end(19), true);
        same("no longer twenty", y.end(20), false);
        same("none", y.end(0), true);
        same("still none", y.end(0), true);
        same("no longer one", y.end(1), false);
    }

    private static void fault() {
        says("The first wrong byte of the latest law() or agreement(); NONE without one, and ahead of any.");
        GemPits x = new GemPits();
        same("ahead of any", x.fault(), -1);
        fails("an empty law", WRONG, () -> x.law());
        same("of an empty law", x.fault(), 0);
        TapeText.agreement(x, "land 1");
        same("of a right agreement", x.fault(), -1);
        fails("a wrong agreement", WRONG, () -> TapeText.agreement(x, "land 101"));
        same("of a wrong agreement", x.fault(), 5);
        same("asked again", x.fault(), 5);
        TapeText.lay(x, "bond 5");
        same("a text alone is no law", x.fault(), 5);
        x.law();
        same("of a right law", x.fault(), -1);
        says("Uses the TAPE up");
        same("by a right law", x.end(1), false);
        fails("a second law is empty", WRONG, () -> x.law());
        same("of the second law", x.fault(), 0);
        fails("a wrong law", WRONG, () -> TapeText.law(x, "bond 5;fill 0"));
        same("by a wrong law", x.end(1), false);
        TapeText.agreement(x, "land 1");
        same("by a right agreement", x.end(1), false);
        fails("a wrong agreement", WRONG, () -> TapeText.agreement(x, "land 1;"));
        same("by a wrong agreement", x.end(1), false);
    }

    private static void bonds() {
        says("4 its bond: 0 none or had back, 1 held, 2 lost; 5 the last day to fill it.");
        GemPits x = new GemPits();
        x.sink(0);
        TapeText.law(x, "bond 1;fill 1000");
        x.days(1000);
        x.days(1000);
        x.sink(1);
        x.sink(2);
        same("none", x.look(0, 4), 0);
        same("held", x.look(1, 4), 1);
        same("the last day", x.look(1, 5), 3000);
        x.fill(2);
        same("filled as it is sunk", x.look(2, 4), 0);
        same("held to the last day of all", x.days(1000) * 10 + x.look(1, 4), 30001);
        TapeText.law(x, "bond 100000;fill 1");
        for (int square = 3; square < 30; square++) {
            x.sink(square);
        }
        same("the greatest sum that is held", x.count(11), 2700001);
        says("NoSuchElementException: another what.");
        for (int what : new int[] {-1, 6, LEAST, GREATEST}) {
            fails("look " + what, NO_WHAT, () -> x.look(0, what));
        }
        x.wash(0, 1);
        x.stone(0, 0);
        for (int what : new int[] {-1, 10, LEAST, LEAST + 3, LEAST + 4, GREATEST}) {
            fails("part " + what, NO_WHAT, () -> x.part(0, what));
        }
        says("2 buyer (NONE), 3 price (NONE), 4 to 9 what of it went to costs, land, licence, lender, diggers, pump");
        same("no buyer", x.part(0, 2), -1);
        same("no price", x.part(0, 3), -1);
        shares("0 of one not sold", x, 0, 0, 0, 0, 0, 0);
    }

    private static void counts() {
        says("0 TODAY, 1 PITS, 2 not filled");
        GemPits x = new GemPits();
        for (int pit = 0; pit < 3; pit++) {
            x.sink(pit);
            same("not filled", x.count(2), pit + 1);
        }
        for (int pit = 2; pit >= 0; pit--) {
            x.fill(pit);
            same("filled from the last on", x.count(2), pit);
        }
        same("filled ones are pits", x.count(1), 3);
        says("13 SQUARES with a SPAN of one amount, 14 without a SPAN.");
        GemPits y = new GemPits();
        y.step(0);
        y.sink(0);
        same("none of one amount", y.count(13) * 100 + y.count(14), 0);
        y.wash(0, 100);
        same("all of one amount", y.count(13) * 100 + y.count(14), 9600);
        y.sink(95);
        y.wash(1, 99);
        same("all without", y.count(13) * 100 + y.count(14), 96);
        says("NONE for another what.");
        for (int what : new int[] {-1, 15, 16, LEAST, GREATEST}) {
            same("count " + what, y.count(what), -1);
        }
        says("6 to 10 all that land, licence, lender, diggers, pump had");
        GemPits z = withStones(60);
        TapeText.agreement(z, "pump 100");
        for (int stone = 0; stone < 60; stone++) {
            sell(z, stone, 1000000);
        }
        same("the greatest that one can have", z.count(10), 60000000);
        same("all are sold", z.count(4), 60);
        same("stones that are sold are stones", z.count(3), 60);
    }

    private interface Reading {
        int answer(GemPits x);
    }

    private static void right(Reading reading, int due) {
        GemPits x = new GemPits();
        try {
            same("how many", reading.answer(x), due);
        } catch (IllegalArgumentException e) {
            same("right, but wrong at " + x.fault(), false, true);
        }
        same("no fault", x.fault(), -1);
    }

    private static void wrongLaw(String text, int due) {
        GemPits x = new GemPits();
        fails("\"" + text + "\"", WRONG, () -> TapeText.law(x, text));
        same("fault of \"" + text + "\"", x.fault(), due);
    }

    private static void wrongAgreement(String text, int due) {
        GemPits x = new GemPits();
        fails("\"" + text + "\"", WRONG, () -> TapeText.agreement(x, text));
        same("fault of \"" + text + "\"", x.fault(), due);
    }

    private static GemPits withStones(int stones) {
        GemPits x = new GemPits();
        x.sink(0);
        x.wash(0, 1);
        for (int stone = 0; stone < stones; stone++) {
            x.stone(0, 0);
        }
        return x;
    }

    private static void sell(GemPits x, int stone, int price) {
        x.hand(stone, 3, price);
        same("sold", x.sell(stone, price), 3);
    }

    /** An object that sold its stone 0 for the price, by the agreement, with so much laid out. */
    private static GemPits sold(String agreement, int laid, int price) {
        GemPits x = withStones(1);
        TapeText.agreement(x, agreement);
        x.lay(laid);
        sell(x, 0, price);
        return x;
    }

    private static void shares(String what, GemPits x, int... due) {
        for (int i = 0; i < due.length; i++) {
            same(what + ", part " + (i + 4), x.part(0, i + 4), due[i]);
        }
    }
}
