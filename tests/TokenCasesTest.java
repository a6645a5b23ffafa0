/** Boundary cases of the promises 1 to 7, each a test of its own. */
public final class TokenCasesTest extends Cases {
    private static final int[] NO_SIDES = {-1, 2, 3, MIN, MAX};
    private static final int[] NO_ATTRIBUTES = {-1, 3, MIN, MAX};

    private static void aNewObject() {
        for (int side = 0; side < 2; side++) {
            int s = side;
            String of = "promise 1, new: side " + s;
            due(of + " has no tokens", 0, States::fresh, x -> x.tokens(s));
            refused(of + " has no token 0", INDEX, States::fresh, x -> x.sentenceOf(s, 0));
            due(of + " has no word 0", 0, States::fresh, x -> x.occurs(s, 0, 0));
            due(of + " has no kind 0", 0, States::fresh, x -> x.occurs(s, 1, 0));
            due(of + " has no root 0", 0, States::fresh, x -> x.occurs(s, 2, 0));
            refused(of + " has no sentence to end", STATE, States::fresh, x -> x.end(s, false));
            refused(of + " has no text to end", STATE, States::fresh, x -> x.end(s, true));
        }
        refused("promise 1, new: there are no sentences", INDEX, States::fresh, x -> x.align(0, 0));
        due("promise 1, new: the pile is empty", 0, States::fresh, x -> x.wipe());
        refused("promise 1, new: no part to label", STATE, States::fresh, x -> labelled(x, 0));
        refused("promise 1, new: no part to keep", STATE, States::fresh, x -> x.keep());
        refused("promise 1, new: no pattern to run", INDEX, States::fresh,
                x -> x.run(0, 0, 0, 0, true));
        refused("promise 1, new: no pattern to walk", INDEX, States::fresh,
                x -> x.walk(0, 0, 0, true));
        for (int result = 0; result < 8; result++) {
            int r = result;
            due("promise 1, new: there is no result " + r, -1, States::fresh, x -> x.size(r));
            refused("promise 1, new: nothing to drop as " + r, INDEX, States::fresh, x -> x.drop(r));
        }
        due("promise 1, new: one beside a rich one has no tokens", 0, TokenCasesTest::besideRich,
                x -> x.tokens(0));
        due("promise 1, new: one beside a rich one has no parts", 0, TokenCasesTest::besideRich,
                x -> x.wipe());
        refused("promise 1, new: one beside a rich one has no pattern", INDEX,
                TokenCasesTest::besideRich, x -> x.walk(0, 0, 0, true));
        due("promise 1, new: one beside a rich one has no result", -1, TokenCasesTest::besideRich,
                x -> x.size(0));
    }

    private static Corpusline besideRich() {
        Corpusline x = new Corpusline();
        States.rich();
        return x;
    }

    private static void tokenValues() {
        for (int side = 0; side < 2; side++) {
            int s = side;
            String of = "promise 2, token: side " + s;
            due(of + ", the first place is 0", 0, States::fresh, x -> x.token(s, 5, 5, 5));
            due(of + ", the second place is 1", 1, States::fresh, x -> {
                x.token(s, 5, 5, 5);
                return x.token(s, 5, 5, 5);
            });
            due(of + ", the other one stays empty", 0, States::fresh, x -> {
                x.token(s, 5, 5, 5);
                return x.tokens(1 - s);
            });
        }
        int[][] within = {{0, 0, 1, 1}, {0, 99, 1, 1}, {1, 1, 0, 1}, {1, 1, 9, 1}, {2, 1, 1, 0},
            {2, 1, 1, 49}};
        for (int[] w : within) {
            int value = w[1 + w[0]];
            String name = "promise 2, token: attribute " + w[0] + " of " + value + " is within";
            due(name, 2, States::fresh, x -> {
                x.token(0, w[1], w[2], w[3]);
                x.token(0, w[1], w[2], w[3]);
                return x.occurs(0, w[0], value);
            });
        }
        int[][] beyond = {{-1, 1, 1}, {100, 1, 1}, {MIN, 1, 1}, {MAX, 1, 1}, {1, -1, 1},
            {1, 10, 1}, {1, MIN, 1}, {1, MAX, 1}, {1, 1, -1}, {1, 1, 50}, {1, 1, MIN},
            {1, 1, MAX}, {100, 10, 50}, {-1, -1, -1}};
        for (int[] w : beyond) {
            String of = "promise 2, token: word " + w[0] + ", kind " + w[1] + ", root " + w[2];
            refused(of + " is beyond", ARGUMENT, States::rich, x -> x.token(0, w[0], w[1], w[2]));
            refused(of + " is beyond, side 1", ARGUMENT, States::rich,
                    x -> x.token(1, w[0], w[1], w[2]));
            for (int side = 0; side < 2; side++) {
                int s = side;
                refused(of + " ahead of the full side " + s, ARGUMENT, () -> States.fullSide(s),
                        x -> x.token(s, w[0], w[1], w[2]));
            }
            refused(of + " behind no such side", INDEX, States::rich,
                    x -> x.token(2, w[0], w[1], w[2]));
        }
    }

    private static void tokenSides() {
        for (int side : NO_SIDES) {
            refused("promise 2, token: no side " + side, INDEX, States::rich,
                    x -> x.token(side, 1, 1, 1));
            refused("promise 2, token: no side " + side + " ahead of a kind", INDEX, States::rich,
                    x -> x.token(side, 1, 10, 1));
            refused("promise 2, token: no side " + side + " beside a full one", INDEX,
                    () -> States.fullSide(1), x -> x.token(side, 1, 1, 1));
        }
        for (int side = 0; side < 2; side++) {
            int s = side;
            String of = "promise 2, token: side " + s;
            due(of + ", the 40th", 39, () -> States.withTokens(s, 39), x -> x.token(s, 1, 1, 1));
            due(of + ", the 40th is there", 2, () -> States.withTokens(s, 39), x -> {
                x.token(s, 1, 1, 1);
                return x.occurs(s, Corpusline.WORD, 1);
            });
            refused(of + ", no 41st", STATE, () -> States.fullSide(s), x -> x.token(s, 1, 1, 1));
            due(of + ", full, and the other one is not", 2, () -> States.fullSide(s),
                    x -> x.token(1 - s, 1, 1, 1));
            refused(of + ", no 41st behind a text's end", STATE, () -> {
                Corpusline x = States.fullSide(s);
                x.end(s, true);
                return x;
            }, x -> x.token(s, 99, 9, 49));
            refused(of + ", no 41st while the other one is full too", STATE, () -> {
                Corpusline x = States.withTokens(0, 40);
                States.addTokens(x, 1, 40);
                return x;
            }, x -> x.token(s, 0, 0, 0));
        }
    }

    private static void endThrows() {
        for (int side : NO_SIDES) {
            for (boolean isText : new boolean[] {false, true}) {
                String of = "promise 3, end: no side " + side + ", text " + isText;
                refused(of, INDEX, States::rich, x -> x.end(side, isText));
                refused(of + ", beside empty ones", INDEX, States::fresh, x -> x.end(side, isText));
            }
        }
        for (int side = 0; side < 2; side++) {
            int s = side;
            for (boolean isText : new boolean[] {false, true}) {
                String of = "promise 3, end: side " + s + ", text " + isText;
                refused(of + ", empty beside one that is not", STATE,
                        () -> States.withTokens(1 - s, 2), x -> x.end(s, isText));
                due(of + ", one token", 1, () -> States.withTokens(s, 1), x -> x.end(s, isText));
                due(of + ", a full side", 40, () -> States.withTokens(s, 40),
                        x -> x.end(s, isText));
                due(of + ", ended already", 2, () -> States.withTokens(s, 2), x -> {
                    x.end(s, isText);
                    return x.end(s, isText);
                });
            }
        }
    }

    /** The sentences of places, one sign each. */
    private static String sentences(Corpusline x, int side) {
        StringBuilder text = new StringBuilder();
        for (int place = 0; place < x.tokens(side); place++) {
            text.append(x.sentenceOf(side, place));
        }
        return text.toString();
    }

    /** The texts of places, one sign each, as the rows of two tokens tell them. */
    private static String texts(Corpusline x, int side) {
        int pair = Build.pattern(x, "..+");
        x.run(0, pair, side, Corpusline.TEXT, true);
        StringBuilder text = new StringBuilder();
        int number = 0;
        int match = 0;
        for (int place = 0; place < x.tokens(side); place++) {
            text.append(number);
            boolean isJoined = match < x.size(0) && x.match(0, match) == place * 100 + 2;
            match += isJoined ? 1 : 0;
            number += isJoined ? 0 : 1;
        }
        return text.toString();
    }

    private static Corpusline words(int side, String words) {
        Corpusline x = new Corpusline();
        Build.words(x, side, words);
        return x;
    }

    private static void endKinds() {
        String[][] cases = {
            {"nothing is ended", "123", "000", "000"},
            {"a sentence", "12,3", "001", "000"},
            {"a text, and its sentence", "12;3", "001", "001"},
            {"a sentence twice", "1,,2", "01", "00"},
            {"a text twice", "1;;2", "01", "01"},
            {"a text where the sentence alone was", "1,;2", "01", "01"},
            {"a sentence where the text was", "1;,2", "01", "01"},
            {"behind the first token only", "1;23", "011", "011"},
            {"behind the last token only", "12;", "00", "00"},
            {"behind each token", "1,2;3,4", "0123", "0011"},
            {"the end is taken by one token", "1;2,3", "012", "011"},
        };
        for (String[] c : cases) {
            for (int side = 0; side < 2; side++) {
                int s = side;
                String of = "promise 3, end: side " + s + ", " + c[0];
                seen(of + ", sentences", c[2], () -> words(s, c[1]), x -> sentences(x, s));
                seen(of + ", texts", c[3], () -> words(s, c[1]), x -> texts(x, s));
            }
        }
        seen("promise 3, end: the other side is not ended, sentences", "00", () -> {
            Corpusline x = words(0, "1");
            Build.words(x, 1, "1");
            x.end(1, true);
            Build.words(x, 0, "2");
            return x;
        }, x -> sentences(x, 0));
        seen("promise 3, end: each side has its own ends, sentences", "01", () -> {
            Corpusline x = words(0, "1;");
            Build.words(x, 1, "12");
            Build.words(x, 0, "2");
            return x;
        }, x -> sentences(x, 0));
        seen("promise 3, end: the texts of 40 tokens", "39", () -> {
            Corpusline x = new Corpusline();
            for (int i = 0; i < 40; i++) {
                x.token(0, i, 0, 0);
                x.end(0, true);
            }
            return x;
        }, x -> "" + x.sentenceOf(0, 39));
    }

    private static void align() {
        due("promise 4, align: the first sentences", 1, () -> States.withSentences(3),
                x -> x.align(0, 0));
        due("promise 4, align: the last sentences", 1, () -> States.withSentences(3),
                x -> x.align(2, 2));
        due("promise 4, align: one of the last, one of the first", 1,
                () -> States.withSentences(3), x -> x.align(2, 0));
        due("promise 4, align: a sentence that is not ended", 1, () -> {
            Corpusline x = States.withTokens(0, 1);
            States.addTokens(x, 1, 1);
            return x;
        }, x -> x.align(0, 0));
        due("promise 4, align: a pair is counted once", 1, () -> States.withSentences(3), x -> {
            x.align(1, 2);
            return x.align(1, 2);
        });
        due("promise 4, align: a pair turned is another one", 2, () -> States.withSentences(3), x -> {
            x.align(1, 2);
            return x.align(2, 1);
        });
        due("promise 4, align: one with each of several", 3, () -> States.withSentences(3), x -> {
            x.align(1, 0);
            x.align(1, 1);
            return x.align(1, 2);
        });
        due("promise 4, align: each of several with one", 3, () -> States.withSentences(3), x -> {
            x.align(0, 1);
            x.align(1, 1);
            return x.align(2, 1);
        });
        due("promise 4, align: all pairs of 12 and 12, twice", 144, () -> States.withSentences(12),
                x -> {
                    int count = 0;
                    for (int i = 0; i < 288; i++) {
                        count = x.align(i % 12, i / 12 % 12);
                    }
                    return count;
                });
    }

    private static void alignEdges() {
        int[] none = {-1, States.RICH_SENTENCES, 40, 64, 65, MIN, MAX};
        for (int number : none) {
            refused("promise 4, align: no sentence " + number + " of the side 0", INDEX,
                    States::rich, x -> x.align(number, 0));
            refused("promise 4, align: no sentence " + number + " of the side 1", INDEX,
                    States::rich, x -> x.align(0, number));
            refused("promise 4, align: no sentence " + number + " of both", INDEX, States::rich,
                    x -> x.align(number, number));
        }
        refused("promise 4, align: the side 0 is empty", INDEX, () -> States.withTokens(1, 2),
                x -> x.align(0, 0));
        refused("promise 4, align: the side 1 is empty", INDEX, () -> States.withTokens(0, 2),
                x -> x.align(0, 0));
        for (boolean isText : new boolean[] {false, true}) {
            String of = "promise 4, align: behind an end, text " + isText;
            Start ended = () -> {
                Corpusline x = States.withTokens(0, 1);
                States.addTokens(x, 1, 1);
                x.end(0, isText);
                x.end(1, isText);
                return x;
            };
            refused(of + ", the side 0 has no sentence 1 yet", INDEX, ended, x -> x.align(1, 0));
            refused(of + ", the side 1 has no sentence 1 yet", INDEX, ended, x -> x.align(0, 1));
            due(of + ", the next token makes it", 1, ended, x -> {
                x.token(0, 1, 1, 1);
                return x.align(1, 0);
            });
        }
        int[][] corners = {{0, 0}, {0, 39}, {39, 0}, {39, 39}, {31, 32}, {32, 31}};
        for (int[] c : corners) {
            due("promise 4, align: full sides, " + c[0] + " with " + c[1], 1,
                    () -> States.withSentences(40), x -> {
                        x.align(c[0], c[1]);
                        return x.align(c[0], c[1]);
                    });
        }
        due("promise 4, align: full sides, all corners", 6, () -> States.withSentences(40), x -> {
            int count = 0;
            for (int[] c : corners) {
                count = x.align(c[0], c[1]);
            }
            return count;
        });
        refused("promise 4, align: full sides, no sentence 40 of the side 0", INDEX,
                () -> States.withSentences(40), x -> x.align(40, 39));
        refused("promise 4, align: full sides, no sentence 40 of the side 1", INDEX,
                () -> States.withSentences(40), x -> x.align(39, 40));
    }

    private static void tokensAndSentenceOf() {
        for (int side : NO_SIDES) {
            refused("promise 5, tokens: no side " + side, INDEX, States::rich, x -> x.tokens(side));
            refused("promise 6, sentenceOf: no side " + side, INDEX, States::rich,
                    x -> x.sentenceOf(side, 0));
            refused("promise 6, sentenceOf: no side " + side + ", no place", INDEX, States::rich,
                    x -> x.sentenceOf(side, -1));
        }
        int[] counts = {0, 1, 39, 40};
        for (int side = 0; side < 2; side++) {
            int s = side;
            for (int count : counts) {
                String of = "side " + s + " with " + count;
                unchanged("promise 5, tokens: " + of, count, () -> States.withTokens(s, count),
                        x -> x.tokens(s));
                due("promise 5, tokens: the other " + of, 0, () -> States.withTokens(1 - s, count),
                        x -> x.tokens(s));
                int[] none = {-1, count, count + 1, MIN, MAX};
                for (int place : none) {
                    refused("promise 6, sentenceOf: " + of + " has no place " + place, INDEX,
                            () -> States.withTokens(s, count), x -> x.sentenceOf(s, place));
                }
            }
            unchanged("promise 6, sentenceOf: the first place of the side " + s, 0, States::rich,
                    x -> x.sentenceOf(s, 0));
            unchanged("promise 6, sentenceOf: the last place of the side " + s, 2, States::rich,
                    x -> x.sentenceOf(s, s == 0 ? 5 : 3));
            due("promise 6, sentenceOf: the place 39 of the side " + s, 39,
                    () -> States.withSentences(40), x -> x.sentenceOf(s, 39));
            due("promise 6, sentenceOf: the only token of the side " + s, 0,
                    () -> States.withTokens(s, 1), x -> x.sentenceOf(s, 0));
        }
        due("promise 5, tokens: no more behind a refused 41st", 40, () -> States.fullSide(0), x -> {
            Check.nameOf(() -> x.token(0, 1, 1, 1));
            return x.tokens(0);
        });
    }

    private static Corpusline sevens(int side, int count) {
        Corpusline x = new Corpusline();
        for (int i = 0; i < count; i++) {
            x.token(side, 7, 7, 7);
        }
        return x;
    }

    private static void occurs() {
        for (int side : NO_SIDES) {
            refused("promise 7, occurs: no side " + side, INDEX, States::rich,
                    x -> x.occurs(side, 0, 1));
            for (int attribute : NO_ATTRIBUTES) {
                refused("promise 7, occurs: no side " + side + " ahead of attribute " + attribute,
                        INDEX, States::rich, x -> x.occurs(side, attribute, 1));
            }
        }
        for (int attribute : NO_ATTRIBUTES) {
            refused("promise 7, occurs: attribute " + attribute, ARGUMENT, States::rich,
                    x -> x.occurs(0, attribute, 1));
            refused("promise 7, occurs: attribute " + attribute + " of an empty side", ARGUMENT,
                    States::fresh, x -> x.occurs(1, attribute, 1));
            refused("promise 7, occurs: attribute " + attribute + ", any value", ARGUMENT,
                    States::rich, x -> x.occurs(0, attribute, MIN));
        }
        int[][] within = {{0, 0, 1, 2}, {0, 0, 99, 1}, {0, 1, 2, 2}, {0, 1, 9, 1}, {0, 1, 0, 1},
            {0, 2, 10, 2}, {0, 2, 49, 1}, {0, 2, 0, 1}, {1, 0, 2, 2}, {1, 1, 1, 2}, {1, 2, 20, 2}};
        for (int[] w : within) {
            unchanged("promise 7, occurs: side " + w[0] + ", attribute " + w[1] + ", " + w[2], w[3],
                    States::rich, x -> x.occurs(w[0], w[1], w[2]));
        }
        int[] never = {-1, 50, 64, 100, 256, MIN, MAX};
        for (int value : never) {
            for (int attribute = 0; attribute < 3; attribute++) {
                int a = attribute;
                due("promise 7, occurs: attribute " + a + " is never " + value, 0, States::rich,
                        x -> x.occurs(0, a, value));
            }
        }
        for (int side = 0; side < 2; side++) {
            int s = side;
            for (int attribute = 0; attribute < 3; attribute++) {
                int a = attribute;
                due("promise 7, occurs: empty side " + s + ", attribute " + a, 0, States::fresh,
                        x -> x.occurs(s, a, 0));
                due("promise 7, occurs: all 40 of side " + s + ", attribute " + a, 40,
                        () -> sevens(s, 40), x -> x.occurs(s, a, 7));
                due("promise 7, occurs: the 40th of side " + s + ", attribute " + a, 1, () -> {
                    Corpusline x = sevens(s, 39);
                    x.token(s, 9, 9, 9);
                    return x;
                }, x -> x.occurs(s, a, 9));
            }
        }
    }

    public static void main(String[] args) {
        aNewObject();
        tokenValues();
        tokenSides();
        endThrows();
        endKinds();
        align();
        alignEdges();
        tokensAndSentenceOf();
        occurs();
        finish(1, 7);
    }
}
