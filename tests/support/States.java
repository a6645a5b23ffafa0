/** States that boundary cases begin with. Each call makes an object of its own. */
public final class States {
    private static final int MOST_TOKENS = 40;

    /** Of the rich states: the sentences 0 to 2 on each side, the patterns 0 to 3. */
    public static final int RICH_SENTENCES = 3, RICH_PATTERNS = 4;
    /** Of the rich states: the results 0, 1 and 3 are of the side 0, 2 of the side 1; 3 is empty. */
    public static final int RICH_RESULTS = 4;

    public static Corpusline fresh() {
        return new Corpusline();
    }

    /** Tokens on both sides, pairs, patterns and results, and no part on the pile. */
    public static Corpusline richButPile() {
        Corpusline x = new Corpusline();
        int[][] first = {{1, 1, 10}, {2, 2, 20}, {1, 1, 30}, {3, 2, 10}, {2, 9, 49}, {99, 0, 0}};
        int[][] second = {{1, 1, 10}, {2, 2, 20}, {2, 1, 20}, {3, 3, 30}};
        tokens(x, 0, first);
        tokens(x, 1, second);
        x.end(0, false);
        x.align(0, 0);
        x.align(1, 1);
        x.align(2, 1);
        Build.pattern(x, ".");
        Build.pattern(x, ".Ba|b+");
        Build.pattern(x, ".{12");
        x.test(Corpusline.WORD, 50, false);
        x.keep();
        x.run(0, 0, 0, Corpusline.NOWHERE, true);
        x.run(1, 2, 0, Corpusline.SENTENCE, true);
        x.run(2, 2, 1, Corpusline.TEXT, true);
        x.run(3, 3, 0, Corpusline.NOWHERE, false);
        return x;
    }

    /** Lays tokens, and ends a sentence behind some, then a text; not behind the last one. */
    private static void tokens(Corpusline x, int side, int[][] tokens) {
        for (int i = 0; i < tokens.length; i++) {
            x.token(side, tokens[i][0], tokens[i][1], tokens[i][2]);
            if (i % 2 != side && i < tokens.length - 1) {
                x.end(side, i > 1);
            }
        }
    }

    /** Two parts on the pile as well: an either-or, and a test with a label; three tests. */
    public static Corpusline rich() {
        Corpusline x = richButPile();
        Build.put(x, "12|.A");
        return x;
    }

    /** The rich state with a pile as told, in place of its own. */
    public static Corpusline withPile(String parts) {
        Corpusline x = richButPile();
        Build.put(x, parts);
        return x;
    }

    /** Just so many tokens on a side, of the words 0, 1 and so on. */
    public static Corpusline withTokens(int side, int count) {
        Corpusline x = new Corpusline();
        addTokens(x, side, count);
        return x;
    }

    public static void addTokens(Corpusline x, int side, int count) {
        for (int i = 0; i < count; i++) {
            x.token(side, i, i % 10, i);
        }
    }

    /** A side that is full, and a rich rest, but for the other side, which has two tokens. */
    public static Corpusline fullSide(int side) {
        Corpusline x = withTokens(side, MOST_TOKENS);
        x.end(side, false);
        x.token(1 - side, 1, 2, 3);
        x.token(1 - side, 1, 2, 3);
        x.align(0, 0);
        Build.put(x, ".Aa+");
        x.keep();
        Build.put(x, "1{02");
        x.run(4, 0, side, Corpusline.NOWHERE, true);
        return x;
    }

    /** So many sentences of one token each on both sides. */
    public static Corpusline withSentences(int count) {
        Corpusline x = new Corpusline();
        for (int i = 0; i < count; i++) {
            for (int side = 0; side < 2; side++) {
                x.token(side, i, 0, 0);
                x.end(side, false);
            }
        }
        return x;
    }

    /** So many patterns, of which each matches any token, and the rest rich. */
    public static Corpusline withPatterns(int count) {
        Corpusline x = rich();
        x.wipe();
        for (int i = RICH_PATTERNS; i < count; i++) {
            x.any();
            x.keep();
        }
        return x;
    }

    /** Words on the side 0, and one pattern. */
    public static Corpusline ready(String words, String pattern) {
        Corpusline x = new Corpusline();
        Build.words(x, 0, words);
        Build.pattern(x, pattern);
        return x;
    }
}
