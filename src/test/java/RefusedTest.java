import java.util.NoSuchElementException;
import java.util.function.ToLongFunction;

/**
 * "Of several exceptions the one told first is thrown; a call that throws changes nothing but the TAPE, where it is
 * used up", and each "nothing happens": the call is made on one of two equal objects, and whatever is asked and done
 * behind it must be answered alike by both.
 */
public final class RefusedTest {
    private static final Class<IndexOutOfBoundsException> NO_SUCH = IndexOutOfBoundsException.class;
    private static final Class<IllegalArgumentException> WRONG = IllegalArgumentException.class;
    private static final Class<NoSuchElementException> NO_WHAT = NoSuchElementException.class;
    private static final Class<IllegalStateException> NOT_YET = IllegalStateException.class;
    private static final Class<UnsupportedOperationException> FULL = UnsupportedOperationException.class;
    private static final int LEAST = Integer.MIN_VALUE;
    private static final int GREATEST = Integer.MAX_VALUE;

    public static void main(String[] args) {
        callsThatThrow();
        callsThatThrowOfFull();
        textsThatAreWrong();
        callsWhereNothingHappens();
        callsWhereNothingHappensOfFull();
        callsThatOnlyAsk();
        Check.close();
    }

    private static void callsThatThrow() {
        for (int n : new int[] {-1, 101, LEAST, GREATEST}) {
            throwing("4: step " + n, WRONG, x -> stepOf(x, n));
            throwing("9: wash a pit, " + n, WRONG, x -> number(x.wash(3, n)));
            throwing("9: wash one that was told, " + n, WRONG, x -> number(x.wash(0, n)));
        }
        for (int square : new int[] {-1, 96, LEAST, GREATEST}) {
            throwing("8: sink " + square, NO_SUCH, x -> x.sink(square));
            throwing("12: least of " + square, NO_SUCH, x -> x.span(square, false));
            throwing("12: most of " + square, NO_SUCH, x -> x.span(square, true));
        }
        for (int pit : new int[] {-1, 5, 30, LEAST, GREATEST}) {
            throwing("9: wash pit " + pit, NO_SUCH, x -> number(x.wash(pit, 7)));
            throwing("9: wash pit first " + pit, NO_SUCH, x -> number(x.wash(pit, 101)));
            throwing("10: fill pit " + pit, NO_SUCH, x -> number(x.fill(pit)));
            throwing("14: look at pit " + pit, NO_SUCH, x -> x.look(pit, 0));
            throwing("14: look at pit first " + pit, NO_SUCH, x -> x.look(pit, 6));
            throwing("15: stone of pit " + pit, NO_SUCH, x -> x.stone(pit, 0));
            throwing("15: stone of pit first " + pit, NO_SUCH, x -> x.stone(pit, 100));
        }
        for (int what : new int[] {-1, 6, LEAST, GREATEST}) {
            throwing("14: look " + what, NO_WHAT, x -> x.look(0, what));
        }
        for (int n : new int[] {-1, 1001, LEAST, GREATEST}) {
            throwing("11: days " + n, WRONG, x -> x.days(n));
        }
        for (int basket : new int[] {-1, 100, LEAST, GREATEST}) {
            throwing("15: basket " + basket, WRONG, x -> x.stone(0, basket));
            throwing("15: basket first, of a pit not washed, " + basket, WRONG, x -> x.stone(3, basket));
        }
        throwing("15: found nothing yet", NOT_YET, x -> x.stone(3, 0));
        throwing("15: found 0", NOT_YET, x -> x.stone(2, 0));
        for (int money : new int[] {-1, 100001, LEAST, GREATEST}) {
            throwing("16: lay " + money, WRONG, x -> x.lay(money));
        }
        for (int stone : new int[] {-1, 4, 60, LEAST, GREATEST}) {
            throwing("17: hand for stone " + stone, NO_SUCH, x -> number(x.hand(stone, 0, 5)));
            throwing("17: hand for stone first " + stone, NO_SUCH, x -> number(x.hand(stone, 0, -1)));
            throwing("18: sell stone " + stone, NO_SUCH, x -> x.sell(stone, 0));
            throwing("18: sell stone first " + stone, NO_SUCH, x -> x.sell(stone, -1));
            throwing("19: part of stone " + stone, NO_SUCH, x -> x.part(stone, 0));
            throwing("19: part of stone first " + stone, NO_SUCH, x -> x.part(stone, 10));
        }
        for (int buyer : new int[] {-1, 6, LEAST, GREATEST}) {
            throwing("17: buyer " + buyer, NO_SUCH, x -> number(x.hand(1, buyer, 999)));
            throwing("17: buyer first " + buyer, NO_SUCH, x -> number(x.hand(1, buyer, 1000001)));
            throwing("17: buyer, of one that is sold, " + buyer, NO_SUCH, x -> number(x.hand(0, buyer, 999)));
        }
        for (int money : new int[] {-1, 1000001, LEAST, GREATEST}) {
            throwing("17: hand of " + money, WRONG, x -> number(x.hand(1, 1, money)));
            throwing("17: for one that is sold, hand of " + money, WRONG, x -> number(x.hand(0, 1, money)));
            throwing("18: limit " + money, WRONG, x -> x.sell(1, money));
            throwing("18: of one that is sold, limit " + money, WRONG, x -> x.sell(0, money));
            throwing("18: of one without a hand, limit " + money, WRONG, x -> x.sell(3, money));
        }
        for (int what : new int[] {-1, 10, LEAST, GREATEST}) {
            throwing("19: part " + what, NO_WHAT, x -> x.part(1, what));
        }
        for (int size : new int[] {0, -1, 11, LEAST, GREATEST}) {
            throwing("20: so wide " + size, WRONG, x -> roughOf(x, size, 3));
            throwing("20: so high " + size, WRONG, x -> roughOf(x, 3, size));
        }
        throwing("20: 9 high", WRONG, x -> roughOf(x, 10, 9));
        for (int place : new int[] {-1, 5, LEAST, GREATEST}) {
            throwing("21: no column " + place, NO_SUCH, x -> number(x.flaw(place, 0, true)));
            throwing("21: no row " + place, NO_SUCH, x -> number(x.flaw(0, place, true)));
        }
        throwing("21: a column as no row", NO_SUCH, x -> number(x.flaw(0, 4, true)));
    }

    private static void callsThatThrowOfFull() {
        for (int square : new int[] {0, 29, 30, 95}) {
            throwingOfFull("8: sink with 30, " + square, FULL, x -> x.sink(square));
        }
        throwingOfFull("8: sink with 30, no square", NO_SUCH, x -> x.sink(96));
        throwingOfFull("9: no pit 30", NO_SUCH, x -> number(x.wash(30, 0)));
        throwingOfFull("15: stone with 60", FULL, x -> x.stone(0, 0));
        throwingOfFull("15: stone with 60, of a pit not washed", NOT_YET, x -> x.stone(1, 0));
        throwingOfFull("15: stone with 60, no basket", WRONG, x -> x.stone(1, 100));
        throwingOfFull("15: stone with 60, no pit", NO_SUCH, x -> x.stone(30, 100));
        throwingOfFull("16: costs above 10000000", WRONG, x -> x.lay(1));
        throwingOfFull("16: costs far above", WRONG, x -> x.lay(100000));
        throwingOfFull("16: costs that wrap round", WRONG, x -> x.lay(GREATEST));
        throwingOfFull("19: no stone 60", NO_SUCH, x -> x.part(60, 0));
        throwingOfFull("21: no cell 10 0", NO_SUCH, x -> number(x.flaw(10, 0, true)));
        throwingOfFull("21: no cell 0 8", NO_SUCH, x -> number(x.flaw(0, 8, true)));
    }

    private static void textsThatAreWrong() {
        String[] laws = {"", "apart 11;", "apart 11;fill 1;bond 100000;x", "fill 1;bond 100001", "bond 5;apart 12",
            "x"};
        for (String text : laws) {
            usedUp("5: \"" + text + "\"", text, x -> x.law());
        }
        String[] agreements = {"", "land 100;", "land 1;licence 2;lender 3 until 4;diggers 5;pump 6;costs last",
            "land 51;pump 50", "lender 5 until 1000000", "pump 101", "costs"};
        for (String text : agreements) {
            usedUp("6: \"" + text + "\"", text, x -> x.agreement());
        }
    }

    private static void callsWhereNothingHappens() {
        for (int n : new int[] {-1, 14, 400, 401, LEAST, GREATEST}) {
            still("3: end " + n, 0, x -> number(x.end(n)));
        }
        still("3: end at its end", 1, x -> number(x.end(13)));
        still("4: the same step", 0, x -> stepOf(x, 15));
        still("8: where one is", -1, x -> x.sink(0));
        still("8: where one was filled", -1, x -> x.sink(5));
        still("8: too near", -1, x -> x.sink(13));
        still("9: told already", 0, x -> number(x.wash(0, 41)));
        still("9: told already, the same", 0, x -> number(x.wash(0, 40)));
        still("9: told already, 0", 0, x -> number(x.wash(2, 1)));
        still("10: filled already", 0, x -> number(x.fill(1)));
        still("11: no days", 32, x -> x.days(0));
        still("16: no money", 20, x -> x.lay(0));
        still("17: sold already", 0, x -> number(x.hand(0, 2, 1000000)));
        still("18: sold already", -1, x -> x.sell(0, 0));
        still("18: no hand is enough", -1, x -> x.sell(1, 401));
        still("18: no hand at all", -1, x -> x.sell(3, 0));
        still("21: a flaw already", 0, x -> number(x.flaw(2, 1, true)));
        still("21: no flaw anyhow", 0, x -> number(x.flaw(0, 0, false)));
    }

    private static void callsWhereNothingHappensOfFull() {
        GemPits full = full();
        Check.same("2: 420 bytes", full.feed(0x62626262, 0, 0, 0, 0), -1);
        sameBehind("2: 420 bytes", full, full());
        GemPits last = full();
        Check.same("11: no day behind the last", last.days(1000), 3000);
        sameBehind("11: no day behind the last", last, full());
    }

    private static void callsThatOnlyAsk() {
        still("7: fault", 4, x -> x.fault());
        still("12: span", 25, x -> x.span(1, false));
        still("14: look", 40, x -> x.look(0, 2));
        still("19: part", 300, x -> x.part(0, 4));
        for (int what : new int[] {-1, 15, LEAST, GREATEST}) {
            still("24: count " + what, -1, x -> x.count(what));
        }
        GemPits asked = busy();
        asked.best();
        asked.most();
        asked.cuts();
        sameBehind("13, 22, 23: best, most, cuts", asked, busy());
    }

    private static void throwing(String what, Class<? extends RuntimeException> due, ToLongFunction<GemPits> call) {
        GemPits called = busy();
        Check.fails(what, due, () -> call.applyAsLong(called));
        Check.same(what + ": fault", called.fault(), 4);
        sameBehind(what, called, busy());
    }

    private static void throwingOfFull(String what, Class<? extends RuntimeException> due,
            ToLongFunction<GemPits> call) {
        GemPits called = full();
        Check.fails(what, due, () -> call.applyAsLong(called));
        sameBehind(what, called, full());
    }

    private static void still(String what, long due, ToLongFunction<GemPits> call) {
        GemPits called = busy();
        Check.same(what, call.applyAsLong(called), due);
        Check.same(what + ": fault", called.fault(), 4);
        sameBehind(what, called, busy());
    }

    /** A wrong text is refused, and is as if its tape had been cut to nothing. */
    private static void usedUp(String what, String text, ToLongFunction<GemPits> call) {
        GemPits called = busy();
        called.end(0);
        TapeText.lay(called, text);
        Check.fails(what, WRONG, () -> call.applyAsLong(called));
        GemPits cut = busy();
        cut.end(0);
        sameBehind(what, called, cut);
    }

    private static void sameBehind(String what, GemPits called, GemPits other) {
        String got = lifeOf(called);
        String due = lifeOf(other);
        if (!got.equals(due)) {
            Check.same(what + ": it changed something", true, false);
            System.out.println("  " + got + "\n  " + due);
        }
    }

    private static long stepOf(GemPits x, int n) {
        x.step(n);
        return 0;
    }

    private static long roughOf(GemPits x, int wide, int high) {
        x.rough(wide, high);
        return 0;
    }

    private static long number(boolean is) {
        return is ? 1 : 0;
    }

    /** An object that has something of everything; 13 bytes lie on its tape, and its fault is 4. */
    private static GemPits busy() {
        GemPits x = new GemPits();
        TapeText.law(x, "apart 2;fill 30;bond 70");
        x.step(15);
        x.sink(0);
        x.sink(5);
        x.sink(50);
        x.sink(90);
        x.wash(0, 40);
        x.wash(1, 55);
        x.wash(2, 0);
        x.days(12);
        x.fill(1);
        x.days(20);
        x.sink(10);
        TapeText.agreement(x, "costs first;land 10;licence 7;lender 50 until 170;pump 3");
        x.lay(300);
        x.stone(0, 7);
        x.stone(0, 8);
        x.stone(1, 99);
        x.stone(0, 0);
        x.hand(0, 2, 500);
        x.sell(0, 500);
        x.lay(20);
        x.hand(1, 3, 400);
        x.hand(1, 1, 400);
        x.hand(2, 0, 10);
        x.rough(5, 4);
        x.flaw(2, 1, true);
        x.flaw(4, 3, true);
        Check.fails("busy", WRONG, () -> TapeText.law(x, "bond"));
        TapeText.lay(x, "bond 9;fill 8");
        return x;
    }

    /** An object that has as much of everything as there may be. */
    private static GemPits full() {
        GemPits x = new GemPits();
        TapeText.law(x, "bond 100000");
        for (int square = 0; square < 30; square++) {
            x.sink(square);
        }
        x.wash(0, 100);
        TapeText.agreement(x, "land 100");
        for (int stone = 0; stone < 60; stone++) {
            x.stone(0, 99);
        }
        for (int i = 0; i < 100; i++) {
            x.lay(100000);
        }
        for (int i = 0; i < 3; i++) {
            x.days(1000);
        }
        x.rough(10, 8);
        TapeText.lay(x, " ".repeat(390) + ";fill 1000");
        return x;
    }

    /** All that an object answers, then what it answers as all that it hides is used. */
    private static String lifeOf(GemPits x) {
        StringBuilder told = new StringBuilder();
        tellAll(x, told);
        tell(told, () -> x.feed(0x3b626f6e, 0x64203020, 0x20202020, 0x20202020, 0x20202020));
        tell(told, () -> x.law());
        tell(told, () -> x.fault());
        for (int square : new int[] {2, 14, 21, 34, 64, 7, 88}) {
            tell(told, () -> x.sink(square));
        }
        x.end(0);
        tell(told, () -> number(x.wash(3, 50)));
        for (int stone = 0; stone < x.count(3); stone++) {
            int sold = stone;
            tell(told, () -> x.sell(sold, 0));
            tell(told, () -> number(x.hand(sold, 4, 350)));
            tell(told, () -> x.sell(sold, 350));
        }
        for (int cell = 0; cell < 80; cell++) {
            int at = cell;
            tell(told, () -> number(x.flaw(at % 10, at / 10, at % 9 == 0)));
        }
        tell(told, () -> TapeText.law(x, "bond 3"));
        tell(told, () -> x.sink(95));
        tell(told, () -> x.days(9));
        tellAll(x, told);
        return told.toString();
    }

    private static void tellAll(GemPits x, StringBuilder told) {
        for (int what = 0; what <= 14; what++) {
            told.append(x.count(what)).append(' ');
        }
        for (int pit = 0; pit < x.count(1); pit++) {
            for (int what = 0; what <= 5; what++) {
                told.append(x.look(pit, what)).append(' ');
            }
        }
        for (int stone = 0; stone < x.count(3); stone++) {
            for (int what = 0; what <= 9; what++) {
                told.append(x.part(stone, what)).append(' ');
            }
        }
        for (int square = 0; square < 96; square++) {
            told.append(x.span(square, false)).append('-').append(x.span(square, true)).append(' ');
        }
        told.append(x.best()).append(' ').append(x.most()).append(' ').append(x.cuts()).append('\n');
    }

    private static void tell(StringBuilder told, Check.Call call) {
        try {
            told.append(call.answer()).append(' ');
        } catch (RuntimeException e) {
            told.append(e.getClass().getSimpleName()).append(' ');
        }
    }
}
