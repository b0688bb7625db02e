/** Patterns, names and bytes, written down in a short form. */
final class Written {
    private Written() {
    }

    /** Adds a pattern: digits stand for themselves, * for any row and ? for any letter. */
    static int pattern(KindGuesser x, int kind, int weight, String signs) {
        return x.pattern(kind, weight, signs.length(), number(signs, 0), number(signs, 4));
    }

    private static int number(String signs, int from) {
        int number = 0;
        for (int place = Math.min(signs.length(), from + 4) - 1; place >= from; place--) {
            number = 100 * number + token(signs.charAt(place));
        }
        return number;
    }

    private static int token(char sign) {
        return sign == '*' ? 10 : sign == '?' ? 11 : sign - '0';
    }

    static void name(KindGuesser x, String letters) {
        for (int place = 0; place < letters.length(); place++) {
            x.letter(letters.charAt(place) - '0');
        }
    }

    static void bytes(KindGuesser x, int... values) {
        for (int value : values) {
            x.put(value);
        }
    }
}
