/** Promises 15 to 19 and 24: stones, costs, hands, sales and how their prices are parted. */
public final class MarketTest {
    private static final Class<IndexOutOfBoundsException> NO_SUCH = IndexOutOfBoundsException.class;
    private static final Class<IllegalArgumentException> WRONG = IllegalArgumentException.class;

    public static void main(String[] args) {
        stones();
        sixtyStones();
        layingOut();
        hands();
        sales();
        withoutAgreement();
        costsFirst();
        roundedDown();
        lenderUntil();
        laterAgreements();
        parts();
        counts();
        Check.close();
    }

    /** A new object with a pit that found 5 and so many stones of it. */
    private static GemPits withStones(int stones) {
        GemPits x = new GemPits();
        x.sink(0);
        x.wash(0, 5);
        for (int i = 0; i < stones; i++) {
            x.stone(0, i);
        }
        return x;
    }

    private static void sellFor(GemPits x, int stone, int price) {
        x.hand(stone, 3, price);
        Check.same("18: sold", x.sell(stone, 0), 3);
    }

    private static void stones() {
        GemPits x = new GemPits();
        Check.fails("15: no pit", NO_SUCH, () -> x.stone(0, 100));
        x.sink(0);
        x.sink(1);
        x.sink(2);
        Check.fails("15: basket first", WRONG, () -> x.stone(0, 100));
        Check.fails("15: basket -1", WRONG, () -> x.stone(0, -1));
        Check.fails("15: not washed", IllegalStateException.class, () -> x.stone(0, 99));
        x.wash(0, 0);
        Check.fails("15: found 0", IllegalStateException.class, () -> x.stone(0, 99));
        x.wash(2, 1);
        Check.same("15: basket 99", x.stone(2, 99), 0);
        x.fill(2);
        Check.same("15: of a filled pit", x.stone(2, 0), 1);
        Check.same("15: two in a basket", x.stone(2, 0), 2);
        Check.fails("15: no pit 3", NO_SUCH, () -> x.stone(3, 0));
        Check.fails("15: no pit -1", NO_SUCH, () -> x.stone(-1, 0));
        Check.same("19: its pit", x.part(1, 0), 2);
        Check.same("19: its basket", x.part(0, 1), 99);
        Check.same("24: stones", x.count(3), 3);
    }

    private static void sixtyStones() {
        GemPits x = withStones(60);
        x.sink(1);
        Check.same("24: sixty", x.count(3), 60);
        Check.fails("15: a sixty-first", UnsupportedOperationException.class, () -> x.stone(0, 0));
        Check.fails("15: of a pit not washed", IllegalStateException.class, () -> x.stone(1, 0));
        Check.fails("15: basket of sixty", WRONG, () -> x.stone(0, 100));
        Check.same("19: the last one's basket", x.part(59, 1), 59);
    }

    private static void layingOut() {
        GemPits x = new GemPits();
        Check.same("16: nothing", x.lay(0), 0);
        Check.fails("16: -1", WRONG, () -> x.lay(-1));
        Check.fails("16: 100001", WRONG, () -> x.lay(100001));
        Check.fails("16: greatest", WRONG, () -> x.lay(Integer.MAX_VALUE));
        for (int i = 1; i <= 100; i++) {
            Check.same("16: laid out", x.lay(100000), 100000 * i);
        }
        Check.fails("16: above 10000000", WRONG, () -> x.lay(1));
        Check.same("16: nothing more", x.lay(0), 10000000);
        Check.same("24: costs", x.count(5), 10000000);
    }

    private static void hands() {
        GemPits x = withStones(1);
        Check.fails("17: no stone", NO_SUCH, () -> x.hand(1, 0, -1) ? 1 : 0);
        Check.fails("17: stone -1", NO_SUCH, () -> x.hand(-1, 0, 0) ? 1 : 0);
        Check.fails("17: no buyer 6", NO_SUCH, () -> x.hand(0, 6, -1) ? 1 : 0);
        Check.fails("17: no buyer -1", NO_SUCH, () -> x.hand(0, -1, 0) ? 1 : 0);
        Check.fails("17: -1", WRONG, () -> x.hand(0, 0, -1) ? 1 : 0);
        Check.fails("17: 1000001", WRONG, () -> x.hand(0, 0, 1000001) ? 1 : 0);
        Check.same("17: no hand yet", x.sell(0, 0), -1);
        Check.same("17: a hand of 0", x.hand(0, 5, 0), true);
        Check.same("17: is one", x.sell(0, 0), 5);
        Check.same("17: sold", x.hand(0, 5, 9), false);
        Check.fails("17: -1, sold", WRONG, () -> x.hand(0, 5, -1) ? 1 : 0);
        Check.same("19: for 0", x.part(0, 3), 0);
        Check.same("24: sold for 0", x.count(4), 1);
    }

    private static void sales() {
        GemPits x = withStones(3);
        Check.fails("18: no stone", NO_SUCH, () -> x.sell(3, -1));
        Check.fails("18: limit -1", WRONG, () -> x.sell(0, -1));
        Check.fails("18: limit 1000001", WRONG, () -> x.sell(0, 1000001));
        x.hand(0, 1, 1000000);
        x.hand(0, 1, 50);
        x.hand(0, 4, 70);
        x.hand(0, 2, 70);
        x.hand(0, 5, 69);
        Check.same("18: too little", x.sell(0, 71), -1);
        Check.same("19: no buyer", x.part(0, 2), -1);
        Check.same("19: no price", x.part(0, 3), -1);
        Check.same("18: just enough", x.sell(0, 70), 2);
        Check.same("19: the buyer", x.part(0, 2), 2);
        Check.same("19: the price", x.part(0, 3), 70);
        Check.same("18: sold once", x.sell(0, 0), -1);
        Check.fails("18: limit -1, sold", WRONG, () -> x.sell(0, -1));
        x.hand(1, 0, 1000000);
        Check.same("18: the greatest", x.sell(1, 1000000), 0);
        Check.same("18: hands are for one stone", x.sell(2, 0), -1);
        Check.same("24: sold", x.count(4), 2);
    }

    private static void withoutAgreement() {
        GemPits x = withStones(1);
        x.lay(30);
        sellFor(x, 0, 77);
        shares("without an agreement", x, 0, 0, 0, 0, 0, 77, 0);
        Check.same("24: costs stay", x.count(5), 30);
    }

    private static void costsFirst() {
        GemPits x = withStones(3);
        x.lay(150);
        TapeText.agreement(x, "land 10;costs first");
        sellFor(x, 0, 100);
        shares("all for costs", x, 0, 100, 0, 0, 0, 0, 0);
        Check.same("16: what is not yet had back", x.count(5), 50);
        sellFor(x, 1, 100);
        shares("some for costs", x, 1, 50, 5, 0, 0, 45, 0);
        sellFor(x, 2, 100);
        shares("no costs left", x, 2, 0, 10, 0, 0, 90, 0);
        TapeText.agreement(x, "land 10");
        x.lay(7);
        x.stone(0, 0);
        sellFor(x, 3, 100);
        shares("costs no longer first", x, 3, 0, 10, 0, 0, 90, 0);
        Check.same("16: laid out again", x.count(5), 7);
    }

    private static void roundedDown() {
        GemPits x = withStones(2);
        TapeText.agreement(x, "land 33;licence 17;lender 9 until 999999;diggers 20;pump 21");
        sellFor(x, 0, 99);
        shares("rounded down", x, 0, 0, 32, 16, 8, 23, 20);
        sellFor(x, 1, 1000000);
        shares("the greatest", x, 1, 0, 330000, 170000, 90000, 200000, 210000);
    }

    private static void lenderUntil() {
        GemPits x = withStones(4);
        TapeText.agreement(x, "lender 50 until 70");
        sellFor(x, 0, 100);
        shares("half", x, 0, 0, 0, 0, 50, 50, 0);
        sellFor(x, 1, 100);
        shares("until 70", x, 1, 0, 0, 0, 20, 80, 0);
        sellFor(x, 2, 100);
        shares("had enough", x, 2, 0, 0, 0, 0, 100, 0);
        TapeText.agreement(x, "lender 50 until 30");
        sellFor(x, 3, 100);
        shares("had more than enough", x, 3, 0, 0, 0, 0, 100, 0);
        TapeText.agreement(x, "lender 100 until 71");
        x.stone(0, 0);
        sellFor(x, 4, 100);
        shares("lacking one of all that it had", x, 4, 0, 0, 0, 1, 99, 0);
    }

    private static void laterAgreements() {
        GemPits x = withStones(2);
        TapeText.agreement(x, "land 10;pump 20;costs first");
        sellFor(x, 0, 100);
        TapeText.agreement(x, "licence 5;licence 6");
        x.lay(9);
        sellFor(x, 1, 100);
        shares("stays as it was parted", x, 0, 0, 10, 0, 0, 70, 20);
        shares("what is not told is 0", x, 1, 0, 0, 6, 0, 94, 0);
    }

    private static void parts() {
        GemPits x = withStones(1);
        x.hand(0, 1, 5);
        shares("not sold", x, 0, 0, 0, 0, 0, 0, 0);
        Check.fails("19: 10", java.util.NoSuchElementException.class, () -> x.part(0, 10));
        Check.fails("19: -1", java.util.NoSuchElementException.class, () -> x.part(0, -1));
        Check.fails("19: no stone", NO_SUCH, () -> x.part(1, 10));
        Check.fails("19: stone -1", NO_SUCH, () -> x.part(-1, 0));
    }

    private static void counts() {
        GemPits x = withStones(3);
        TapeText.agreement(x, "land 1;licence 2;lender 3 until 5;diggers 4;pump 6");
        sellFor(x, 0, 100);
        sellFor(x, 1, 200);
        Check.same("24: land", x.count(6), 3);
        Check.same("24: licence", x.count(7), 6);
        Check.same("24: lender", x.count(8), 5);
        Check.same("24: diggers", x.count(9), 268);
        Check.same("24: pump", x.count(10), 18);
        Check.same("24: sold", x.count(4), 2);
        Check.same("24: stones", x.count(3), 3);
        Check.same("24: 15", x.count(15), -1);
        Check.same("24: -1", x.count(-1), -1);
        Check.same("24: greatest", x.count(Integer.MAX_VALUE), -1);
    }

    private static void shares(String what, GemPits x, int stone, int... due) {
        for (int i = 0; i < due.length; i++) {
            Check.same("19: " + what + ", part " + (i + 4), x.part(stone, i + 4), due[i]);
        }
    }
}
