/** Lays texts on the tape of a GemPits. */
final class TapeText {
    private static final int BYTES_A_FEED = 20;

    private TapeText() {
    }

    /** Lays the text, characters 0 to 255, on an empty tape. */
    static void lay(GemPits pits, String text) {
        for (int from = 0; from < text.length(); from += BYTES_A_FEED) {
            pits.feed(word(text, from), word(text, from + 4), word(text, from + 8),
                    word(text, from + 12), word(text, from + 16));
        }
        pits.end(text.length());
    }

    static int law(GemPits pits, String text) {
        lay(pits, text);
        return pits.law();
    }

    static int agreement(GemPits pits, String text) {
        lay(pits, text);
        return pits.agreement();
    }

    private static int word(String text, int from) {
        int word = 0;
        for (int i = from; i < from + 4; i++) {
            word = word << 8 | (i < text.length() ? text.charAt(i) & 255 : 0);
        }
        return word;
    }
}
