/** Promises 1 to 7: a new object, tokens, sentences and texts, and what is aligned. */
public final class TokensTest {
    private static final int MIN = Integer.MIN_VALUE, MAX = Integer.MAX_VALUE;

    private static void aNewObject() {
        Corpusline x = new Corpusline();
        Check.due("1: tokens of side 0", 0, () -> x.tokens(0));
        Check.due("1: tokens of side 1", 0, () -> x.tokens(1));
        Check.index("1: no sentence", () -> x.align(0, 0));
        Check.index("1: no pattern", () -> x.walk(0, 0, 0, true));
        for (int i = 0; i < 8; i++) {
            int result = i;
            Check.due("1: no result " + i, -1, () -> x.size(result));
        }
        Check.due("1: no parts", 0, () -> x.wipe());
        Corpusline other = new Corpusline();
        Build.words(other, 0, "12");
        Build.pattern(other, "1");
        other.run(0, 0, 0, 0, true);
        Check.due("1: objects are apart: tokens", 0, () -> x.tokens(0));
        Check.index("1: objects are apart: patterns", () -> x.walk(0, 0, 0, true));
        Check.due("1: objects are apart: results", -1, () -> x.size(0));
    }

    private static void token() {
        Corpusline x = new Corpusline();
        Check.due("2: first", 0, () -> x.token(0, 0, 0, 0));
        Check.due("2: second", 1, () -> x.token(0, 99, 9, 49));
        Check.due("2: other side", 0, () -> x.token(1, 7, 8, 9));
        int[] noSides = {-1, 2, MIN, MAX};
        for (int side : noSides) {
            Check.index("2: side " + side, () -> x.token(side, 1, 1, 1));
            Check.index("2: side " + side + " ahead of a word", () -> x.token(side, 100, 1, 1));
        }
        int[][] wrong = {{-1, 0, 0}, {100, 0, 0}, {0, -1, 0}, {0, 10, 0}, {0, 0, -1}, {0, 0, 50},
            {MAX, 0, 0}, {0, MIN, 0}, {0, 0, MAX}};
        for (int[] w : wrong) {
            Check.argument("2: value out of range", () -> x.token(0, w[0], w[1], w[2]));
        }
        for (int i = 2; i < 40; i++) {
            int place = i;
            Check.due("2: place " + i, place, () -> x.token(0, 1, 1, 1));
        }
        Check.state("2: side is full", () -> x.token(0, 1, 1, 1));
        Check.argument("2: full, and word out of range", () -> x.token(0, 100, 1, 1));
        Check.due("2: the other side is not full", 1, () -> x.token(1, 1, 1, 1));
    }

    private static void sentences(Corpusline x, int side, String due) {
        StringBuilder text = new StringBuilder();
        for (int place = 0; place < x.tokens(side); place++) {
            text.append(x.sentenceOf(side, place));
        }
        Check.report("3: sentences", text.toString(), due);
    }

    private static void end() {
        Corpusline x = new Corpusline();
        Check.state("3: no tokens", () -> x.end(0, false));
        Check.state("3: no tokens, text", () -> x.end(1, true));
        Check.index("3: no side ahead of no tokens", () -> x.end(2, false));
        Check.index("3: side -1", () -> x.end(-1, true));
        x.token(0, 1, 0, 0);
        Check.state("3: none on the other side", () -> x.end(1, false));
        sentences(x, 0, "0");
        x.token(0, 2, 0, 0);
        Check.due("3: a sentence", 2, () -> x.end(0, false));
        Check.due("3: ended already", 2, () -> x.end(0, false));
        x.token(0, 3, 0, 0);
        x.token(0, 4, 0, 0);
        Check.due("3: a text", 4, () -> x.end(0, true));
        Check.due("3: the sentence is ended with it", 4, () -> x.end(0, false));
        x.token(0, 5, 0, 0);
        Check.due("3: sentence first", 5, () -> x.end(0, false));
        Check.due("3: then the text", 5, () -> x.end(0, true));
        x.token(0, 6, 0, 0);
        x.token(0, 7, 0, 0);
        sentences(x, 0, "0011233");
        int any = Build.pattern(x, ".{22");
        x.run(0, any, 0, Corpusline.TEXT, true);
        Check.report("3: texts end", Build.matches(x, 0), "0+2 1+2 2+2 5+2");
        x.end(1 - 1, true);
        Check.index("3: side 2", () -> x.end(2, true));
        x.token(0, 8, 0, 0);
        sentences(x, 0, "00112334");
        x.token(1, 1, 0, 0);
        sentences(x, 1, "0");
    }

    /** An end that is told ahead of a text's end is not taken back by a sentence's end. */
    private static void endsInAnyOrder() {
        Corpusline x = new Corpusline();
        Build.words(x, 0, "1;,2,3,;4,,5");
        sentences(x, 0, "01234");
        int two = Build.pattern(x, "..+");
        x.run(0, two, 0, Corpusline.TEXT, true);
        Check.report("3: texts", Build.matches(x, 0), "1+2 3+2");
        x.run(0, two, 0, Corpusline.SENTENCE, true);
        Check.report("3: sentences of one token", Build.matches(x, 0), "");
    }

    private static void align() {
        Corpusline x = new Corpusline();
        Check.index("4: empty sides", () -> x.align(0, 0));
        Build.words(x, 0, "1,2,3");
        Check.index("4: no sentence on the side 1", () -> x.align(0, 0));
        Build.words(x, 1, "4,5");
        Check.due("4: one", 1, () -> x.align(0, 1));
        Check.due("4: the same once more", 1, () -> x.align(0, 1));
        Check.due("4: another", 2, () -> x.align(0, 0));
        Check.due("4: a third", 3, () -> x.align(2, 1));
        Check.due("4: numbers the other way", 4, () -> x.align(1, 0));
        int[][] none = {{3, 0}, {0, 2}, {-1, 0}, {0, -1}, {3, 2}, {MAX, 0}, {0, MAX}, {MIN, MIN},
            {64, 0}, {0, 64}};
        for (int[] pair : none) {
            Check.index("4: no such sentence", () -> x.align(pair[0], pair[1]));
        }
        x.end(0, true);
        Check.index("4: a sentence that has no token yet", () -> x.align(3, 0));
        x.token(0, 1, 1, 1);
        Check.due("4: now it is there", 5, () -> x.align(3, 0));
        Check.due("4: still once", 5, () -> x.align(2, 1));
    }

    private static void alignSingleTokens() {
        Corpusline x = new Corpusline();
        x.token(0, 1, 0, 0);
        x.token(1, 1, 0, 0);
        Check.due("4: sentences that are not ended", 1, () -> x.align(0, 0));
        Check.index("4: the only one", () -> x.align(0, 1));
        Check.index("4: the only one of the side 0", () -> x.align(1, 0));
    }

    private static void alignManyPairs() {
        Corpusline x = new Corpusline();
        for (int i = 0; i < 40; i++) {
            x.token(0, i, 0, 0);
            x.end(0, false);
            x.token(1, i, 0, 0);
            x.end(1, true);
        }
        int[][] pairs = {{39, 39}, {0, 39}, {39, 0}, {32, 31}, {31, 32}, {7, 39}, {0, 39}};
        int[] due = {1, 2, 3, 4, 5, 6, 6};
        for (int i = 0; i < pairs.length; i++) {
            int[] pair = pairs[i];
            Check.due("4: pair " + i, due[i], () -> x.align(pair[0], pair[1]));
        }
        Check.due("6: last sentence", 39, () -> x.sentenceOf(1, 39));
        Check.index("4: sentence 40", () -> x.align(40, 0));
    }

    private static void tokensAndSentenceOf() {
        Corpusline x = new Corpusline();
        Build.words(x, 1, "12,3");
        Check.due("5: side 0", 0, () -> x.tokens(0));
        Check.due("5: side 1", 3, () -> x.tokens(1));
        int[] noSides = {-1, 2, MIN, MAX};
        for (int side : noSides) {
            Check.index("5: side " + side, () -> x.tokens(side));
            Check.index("6: side " + side, () -> x.sentenceOf(side, 0));
        }
        Check.due("6: place 1", 0, () -> x.sentenceOf(1, 1));
        Check.due("6: place 2", 1, () -> x.sentenceOf(1, 2));
        int[] noPlaces = {-1, 3, 39, 40, MIN, MAX};
        for (int place : noPlaces) {
            Check.index("6: place " + place, () -> x.sentenceOf(1, place));
        }
        Check.index("6: empty side", () -> x.sentenceOf(0, 0));
    }

    private static void occurs() {
        Corpusline x = new Corpusline();
        x.token(0, 5, 6, 7);
        x.token(0, 6, 5, 7);
        x.token(0, 5, 0, 49);
        x.token(1, 99, 9, 5);
        Check.due("7: word 5", 2, () -> x.occurs(0, Corpusline.WORD, 5));
        Check.due("7: kind 5", 1, () -> x.occurs(0, Corpusline.KIND, 5));
        Check.due("7: root 7", 2, () -> x.occurs(0, Corpusline.ROOT, 7));
        Check.due("7: root 5", 0, () -> x.occurs(0, Corpusline.ROOT, 5));
        Check.due("7: kind 0", 1, () -> x.occurs(0, Corpusline.KIND, 0));
        Check.due("7: other side", 1, () -> x.occurs(1, Corpusline.ROOT, 5));
        Check.due("7: word 99", 1, () -> x.occurs(1, Corpusline.WORD, 99));
        int[] any = {-1, 100, 1000, MIN, MAX};
        for (int value : any) {
            Check.due("7: value " + value, 0, () -> x.occurs(0, Corpusline.WORD, value));
        }
        int[] wrong = {-1, 3, MIN, MAX};
        for (int number : wrong) {
            Check.argument("7: attribute " + number, () -> x.occurs(0, number, 5));
            Check.index("7: side " + number, () -> x.occurs(number == 3 ? 2 : number, 0, 5));
            Check.index("7: side first", () -> x.occurs(number == 3 ? 2 : number, 9, 5));
        }
    }

    public static void main(String[] args) {
        aNewObject();
        token();
        end();
        endsInAnyOrder();
        align();
        alignSingleTokens();
        alignManyPairs();
        tokensAndSentenceOf();
        occurs();
        Check.finish();
    }
}
