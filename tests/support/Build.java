/** Short ways to lay tokens and to build patterns in the tests. */
public final class Build {
    /** Adds tokens whose words are the digits; ',' ends a sentence, ';' a text. */
    public static void words(Corpusline x, int side, String words) {
        for (char c : words.toCharArray()) {
            if (c == ',' || c == ';') {
                x.end(side, c == ';');
            } else {
                x.token(side, c - '0', 0, 0);
            }
        }
    }

    /**
     * Builds what a text tells and keeps it: a digit is a test of that word, '.' is any token,
     * 'A' to 'C' set a label, 'a' to 'c' test the word of a label's token, '&' '+' '|' are both,
     * chain and either, and '{lm' is a repeat of l to m times.
     */
    public static int pattern(Corpusline x, String text) {
        put(x, text);
        return x.keep();
    }

    public static void put(Corpusline x, String text) {
        for (int i = 0; i < text.length(); i++) {
            char c = text.charAt(i);
            if (c >= '0' && c <= '9') {
                x.test(Corpusline.WORD, c - '0', false);
            } else if (c == '.') {
                x.any();
            } else if (c >= 'A' && c <= 'C') {
                x.label(c - 'A');
            } else if (c >= 'a' && c <= 'c') {
                x.same(Corpusline.WORD, c - 'a');
            } else if (c == '&') {
                x.both();
            } else if (c == '+') {
                x.chain();
            } else if (c == '|') {
                x.either();
            } else if (c == '{') {
                x.repeat(text.charAt(i + 1) - '0', text.charAt(i + 2) - '0');
                i += 2;
            } else {
                throw new AssertionError("no such sign: " + c);
            }
        }
    }

    /** Returns a result's matches, as in "0+2 3+1", by size() and match(). */
    public static String matches(Corpusline x, int result) {
        StringBuilder text = new StringBuilder();
        for (int i = 0; i < x.size(result); i++) {
            int match = x.match(result, i);
            text.append(i == 0 ? "" : " ").append(match / 100).append('+').append(match % 100);
        }
        return text.toString();
    }

    /** Runs a pattern that is built for it on the side 0, and returns the matches. */
    public static String found(Corpusline x, String pattern, int bound, boolean isLongest) {
        int number = pattern(x, pattern);
        int count = x.run(7, number, 0, bound, isLongest);
        int walked = x.walk(number, 0, bound, isLongest);
        if (count != x.size(7) || count != walked / 100) {
            return "unlike counts";
        }
        return matches(x, 7);
    }
}
