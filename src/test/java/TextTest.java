/** Promises 2, 3 and 5 to 7: the tape, the law and the agreement, and the first wrong byte. */
public final class TextTest {
    private static final Class<IllegalArgumentException> WRONG = IllegalArgumentException.class;

    public static void main(String[] args) {
        feeding();
        ending();
        laws();
        wrongLaws();
        agreements();
        wrongAgreements();
        wrongTextsChangeNothing();
        bytesThatAreNone();
        Check.close();
    }

    private static void feeding() {
        GemPits x = new GemPits();
        for (int bytes = 20; bytes <= 400; bytes += 20) {
            Check.same("2: fed", x.feed(0x20202020, 0x20202020, 0x20202020, 0x20202020, 0x20202020), bytes);
        }
        Check.same("2: 420 are too many", x.feed(0, 0, 0, 0, 0), -1);
        Check.same("2: none came", x.end(400), true);
        Check.fails("2: 400 blanks", WRONG, x::law);
        Check.same("2: all were blanks", x.fault(), 400);
        Check.same("2: used up", x.feed(0x66696c6c, 0x37000000, 0, 0, 0), 20);
        x.end(5);
        Check.same("2: the highest byte first", x.law(), 1);
        x.sink(0);
        Check.same("2: fill7", x.look(0, 5), 7);
        GemPits y = new GemPits();
        // "apart 1; f" "ill 2; bon" "d 3": each of the five numbers has its place.
        y.feed(0x61706172, 0x7420313b, 0x2066696c, 0x6c20323b, 0x20626f6e);
        y.feed(0x64203300, 0, 0, 0, 0);
        y.end(23);
        Check.same("2: behind the tape", y.law(), 3);
        GemPits z = new GemPits();
        z.feed(0, 0, 0, 0, 0);
        for (int i = 0; i < 18; i++) {
            z.feed(0, 0, 0, 0, 0);
        }
        z.end(381 - 1);
        Check.same("2: 380 and 20", z.feed(0, 0, 0, 0, 0), 400);
        z.end(381);
        Check.same("2: 381 and 20", z.feed(0, 0, 0, 0, 0), -1);
        Check.same("2: stays 381", z.end(382), false);
    }

    private static void ending() {
        GemPits x = new GemPits();
        Check.same("3: 0 of 0", x.end(0), true);
        Check.same("3: 1 of 0", x.end(1), false);
        TapeText.lay(x, "fill 12; bond 8");
        Check.same("3: -1", x.end(-1), false);
        Check.same("3: least", x.end(Integer.MIN_VALUE), false);
        Check.same("3: 16 of 15", x.end(16), false);
        Check.same("3: 15 of 15", x.end(15), true);
        Check.same("3: 6 of 15", x.end(6), true);
        Check.same("3: no more than 6", x.end(7), false);
        Check.same("3: fill 1", x.law(), 1);
        x.sink(0);
        Check.same("3: the first bytes alone", x.look(0, 5), 1);
        Check.same("3: used up", x.end(1), false);
    }

    private static void laws() {
        GemPits x = new GemPits();
        Check.same("5: three terms", TapeText.law(x, "bond 5;apart 2;fill 3"), 3);
        Check.same("5: blanks all over", TapeText.law(x, "   bond   000006  ;  apart 1 "), 2);
        Check.same("7: right", x.fault(), -1);
        x.sink(0);
        Check.same("5: what it does not tell stays", x.look(0, 5), 3);
        Check.same("5: six digits", x.count(11), 6);
        Check.same("5: without blanks", TapeText.law(x, "apart0;fill1000;bond100000"), 3);
        x.sink(1);
        Check.same("5: the greatest fill", x.look(1, 5), 1000);
        Check.same("5: the greatest bond", x.count(11), 100006);
        Check.same("5: two alike", TapeText.law(x, "fill 8;fill 9;fill 4"), 3);
        x.sink(2);
        Check.same("5: the later one counts", x.look(2, 5), 4);
        Check.same("5: apart 11", TapeText.law(x, "apart 11"), 1);
        Check.same("5: all is near", x.sink(11), -1);
        Check.same("5: bond 0", TapeText.law(x, "bond 0"), 1);
        Check.same("5: apart stays", x.sink(24), -1);
        Check.same("5: apart 0", TapeText.law(x, "apart 0"), 1);
        Check.same("5: fill stays", x.look(x.sink(24), 5), 4);
        TapeText.law(x, "bond 9");
        TapeText.law(x, "fill 1");
        int held = x.count(11);
        x.sink(25);
        Check.same("5: bond stays", x.count(11), held + 9);
    }

    private static void wrongLaws() {
        wrongLaw("", 0);
        wrongLaw("   ", 3);
        wrongLaw("apart", 5);
        wrongLaw("apart  ", 7);
        wrongLaw("apart 12", 6);
        wrongLaw("apart  12", 7);
        wrongLaw("fill 0", 5);
        wrongLaw("fill 1001", 5);
        wrongLaw("bond 100001", 5);
        wrongLaw("bond 0000001", 5);
        wrongLaw("bond 99999999999999999999", 5);
        wrongLaw("bond -1", 5);
        wrongLaw("bond x", 5);
        wrongLaw("bond ;", 5);
        wrongLaw("bonds 1", 0);
        wrongLaw("bon 1", 0);
        wrongLaw("bondz 1", 0);
        wrongLaw("abond 1", 0);
        wrongLaw("nond 1", 0);
        wrongLaw("bonb 1", 0);
        wrongLaw("bo nd 1", 0);
        wrongLaw("Bond 1", 0);
        wrongLaw("  5", 2);
        wrongLaw(";bond 1", 0);
        wrongLaw("bond 1;", 7);
        wrongLaw("bond 1; ", 8);
        wrongLaw("bond 1;;fill 1", 7);
        wrongLaw("bond 1 fill 1", 7);
        wrongLaw("bond 1 2", 7);
        wrongLaw("bond 1,", 6);
        wrongLaw("bond 1; land 5", 8);
        wrongLaw("bond\t1", 4);
        wrongLaw("bond 1\n", 6);
        wrongLaw("fill 1; bond 1; apart 12; x", 22);
    }

    private static void wrongLaw(String text, int fault) {
        GemPits x = new GemPits();
        Check.fails("5: \"" + text + "\"", WRONG, () -> TapeText.law(x, text));
        Check.same("7: \"" + text + "\"", x.fault(), fault);
        Check.same("5: used up all the same", x.end(1), false);
        x.sink(0);
        Check.same("5: fill stays", x.look(0, 5), 1000);
        Check.same("5: bond stays", x.count(11), 0);
        Check.same("5: apart stays", x.sink(1), 1);
    }

    private static void agreements() {
        GemPits x = new GemPits();
        Check.same("6: one", TapeText.agreement(x, "costs first"), 1);
        Check.same("6: six", TapeText.agreement(x,
                "pump 1;diggers 2;lender 3 until 4;licence 5;land 6;costs   first"), 6);
        Check.same("6: without blanks", TapeText.agreement(x, "lender3until4;land97"), 2);
        Check.same("6: a hundred together", TapeText.agreement(x, "land 60;land 20;pump 80"), 3);
        Check.same("6: the greatest until", TapeText.agreement(x, " lender 100 until 999999 "), 1);
        Check.same("6: no hundredths", TapeText.agreement(x,
                "land 0;licence 0;lender 0 until 0;diggers 0;pump 0"), 5);
        Check.same("7: right", x.fault(), -1);
    }

    private static void wrongAgreements() {
        wrongAgreement("", 0);
        wrongAgreement(" ", 1);
        wrongAgreement("costs", 5);
        wrongAgreement("costs ", 6);
        wrongAgreement("costsfirst", 0);
        wrongAgreement("costs firsts", 6);
        wrongAgreement("costs land 1", 6);
        wrongAgreement("costs;first", 5);
        wrongAgreement("first", 0);
        wrongAgreement("land", 4);
        wrongAgreement("land 101", 5);
        wrongAgreement("land 0000100", 5);
        wrongAgreement("lender 5", 8);
        wrongAgreement("lender 5;", 8);
        wrongAgreement("lender 5 6", 9);
        wrongAgreement("lender until 5", 7);
        wrongAgreement("lender 5 until", 14);
        wrongAgreement("lender 5 until 1000000", 15);
        wrongAgreement("lender 5 untill 1", 9);
        wrongAgreement("land 5 until 1", 7);
        wrongAgreement("apart 1", 0);
        wrongAgreement("land 1;", 7);
        wrongAgreement("land 51;pump 50", 15);
        wrongAgreement("land 51;pump 50 ", 16);
        wrongAgreement("land 51;pump 50 x", 16);
        wrongAgreement("land 21;licence 20;lender 20 until 5;diggers 20;pump 20", 55);
    }

    private static void wrongAgreement(String text, int fault) {
        GemPits x = new GemPits();
        Check.fails("6: \"" + text + "\"", WRONG, () -> TapeText.agreement(x, text));
        Check.same("7: \"" + text + "\"", x.fault(), fault);
        Check.same("6: used up all the same", x.end(1), false);
    }

    private static void wrongTextsChangeNothing() {
        GemPits x = new GemPits();
        x.sink(0);
        x.wash(0, 1);
        x.stone(0, 0);
        x.lay(10);
        x.hand(0, 0, 110);
        TapeText.agreement(x, "land 30;costs first");
        Check.fails("6: wrong at its end", WRONG, () -> TapeText.agreement(x, "land 40;x"));
        Check.same("7: of the agreement", x.fault(), 8);
        Check.fails("5: wrong at its end", WRONG, () -> TapeText.law(x, "bond 4;"));
        Check.same("7: of the law", x.fault(), 7);
        x.sink(1);
        Check.same("5: the bond stays", x.count(11), 0);
        x.sell(0, 0);
        Check.same("6: the land stays", x.part(0, 5), 30);
        Check.same("6: the costs stay first", x.part(0, 4), 10);
        TapeText.law(x, "bond 4");
        Check.same("7: the latest was right", x.fault(), -1);
    }

    private static void bytesThatAreNone() {
        for (int b = 0; b < 256; b++) {
            GemPits x = new GemPits();
            String text = "bond 1" + (char) b;
            if (b == ' ' || b >= '0' && b <= '9') {
                Check.same("5: byte " + b, TapeText.law(x, text), 1);
            } else {
                Check.fails("5: byte " + b, WRONG, () -> TapeText.law(x, text));
                Check.same("7: byte " + b, x.fault(), b == ';' ? 7 : 6);
            }
        }
    }
}
