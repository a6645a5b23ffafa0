/** Boundary cases of the promises 18 and 19, each a test of its own. */
public final class RunCasesTest extends Cases {
    private static final int[] NO_PATTERNS = {-1, States.RICH_PATTERNS, 11, 12, MIN, MAX};
    private static final int[] NO_SIDES = {-1, 2, MIN, MAX};
    private static final int[] NO_RESULTS = {-1, 8, MIN, MAX};
    private static final int[] NO_BOUNDS = {-1, 3, MIN, MAX};

    private static void runThrows() {
        for (int number : NO_PATTERNS) {
            refused("promise 18, run: no pattern " + number, INDEX, States::rich,
                    x -> x.run(0, number, 0, 0, true));
            refused("promise 18, run: no pattern " + number + ", no side", INDEX, States::rich,
                    x -> x.run(0, number, 2, 0, true));
            refused("promise 18, run: no pattern " + number + " ahead of the result", INDEX,
                    States::rich, x -> x.run(8, number, 0, 0, true));
            refused("promise 18, run: no pattern " + number + " ahead of the bound", INDEX,
                    States::rich, x -> x.run(0, number, 0, 3, true));
            refused("promise 18, run: no pattern " + number + " for a result that is not there",
                    INDEX, States::rich, x -> x.run(7, number, 0, 0, false));
        }
        for (int side : NO_SIDES) {
            refused("promise 18, run: no side " + side, INDEX, States::rich,
                    x -> x.run(0, 0, side, 0, true));
            refused("promise 18, run: no side " + side + " ahead of the result", INDEX,
                    States::rich, x -> x.run(-1, 0, side, 0, true));
            refused("promise 18, run: no side " + side + " ahead of the bound", INDEX,
                    States::rich, x -> x.run(0, 0, side, -1, true));
        }
        for (int result : NO_RESULTS) {
            refused("promise 18, run: result " + result, ARGUMENT, States::rich,
                    x -> x.run(result, 0, 0, 0, true));
            refused("promise 18, run: result " + result + ", bound 3", ARGUMENT, States::rich,
                    x -> x.run(result, 0, 1, 3, true));
        }
        for (int bound : NO_BOUNDS) {
            for (int result = 0; result < 8; result += 7) {
                int r = result;
                refused("promise 18, run: bound " + bound + ", result " + r, ARGUMENT,
                        States::rich, x -> x.run(r, 0, 0, bound, true));
                refused("promise 18, run: bound " + bound + ", result " + r + ", shortest", ARGUMENT,
                        States::rich, x -> x.run(r, 0, 1, bound, false));
            }
        }
        refused("promise 18, run: no patterns at all", INDEX, () -> States.withTokens(0, 3),
                x -> x.run(0, 0, 0, 0, true));
        refused("promise 18, run: a part that is not kept is no pattern", INDEX, () -> {
            Corpusline x = States.withTokens(0, 3);
            x.any();
            return x;
        }, x -> x.run(0, 0, 0, 0, true));
    }

    private static void walkThrows() {
        for (int number : NO_PATTERNS) {
            refused("promise 19, walk: no pattern " + number, INDEX, States::rich,
                    x -> x.walk(number, 0, 0, true));
            refused("promise 19, walk: no pattern " + number + ", no side", INDEX, States::rich,
                    x -> x.walk(number, -1, 0, true));
            refused("promise 19, walk: no pattern " + number + " ahead of the bound", INDEX,
                    States::rich, x -> x.walk(number, 0, 3, true));
        }
        for (int side : NO_SIDES) {
            refused("promise 19, walk: no side " + side, INDEX, States::rich,
                    x -> x.walk(0, side, 0, true));
            refused("promise 19, walk: no side " + side + " ahead of the bound", INDEX,
                    States::rich, x -> x.walk(0, side, -1, false));
        }
        for (int bound : NO_BOUNDS) {
            refused("promise 19, walk: bound " + bound, ARGUMENT, States::rich,
                    x -> x.walk(0, 0, bound, true));
            refused("promise 19, walk: bound " + bound + " of an empty side", ARGUMENT,
                    () -> States.ready("", "."), x -> x.walk(0, 1, bound, false));
        }
        refused("promise 19, walk: no patterns at all", INDEX, () -> States.withTokens(0, 3),
                x -> x.walk(0, 0, 0, true));
    }

    private static void runWithin() {
        for (int result = 0; result < 8; result++) {
            int r = result;
            due("promise 18, run: result " + r, 6, States::rich, x -> x.run(r, 0, 0, 0, true));
            due("promise 18, run: result " + r + " is there then", 4, States::rich, x -> {
                x.run(r, 0, 1, 0, true);
                return x.size(r);
            });
        }
        due("promise 18, run: result 7 leaves the others", 6, States::rich, x -> {
            x.run(7, 3, 0, 0, true);
            return x.size(0);
        });
        due("promise 18, run: in place of a result with more", 0, States::rich, x -> {
            x.run(0, 3, 0, 0, true);
            return x.size(0);
        });
        refused("promise 18, run: nothing stays of a result with more", INDEX, () -> {
            Corpusline x = States.rich();
            x.run(0, 3, 0, 0, true);
            return x;
        }, x -> x.match(0, 0));
        due("promise 18, run: in place of an empty result", 6, States::rich, x -> {
            x.run(3, 0, 0, 0, true);
            return x.size(3);
        });
        seen("promise 18, run: in place of one of the other side", "0+1 1+1 2+1 3+1", States::rich,
                x -> {
                    x.run(0, 0, 1, 0, true);
                    return Build.matches(x, 0);
                });
        due("promise 18, run: it is of the other side then", 6, States::rich, x -> {
            x.run(0, 0, 1, 0, true);
            return x.join(0, 2, Corpusline.EITHER);
        });
        due("promise 18, run: the twelfth pattern", 6, () -> States.withPatterns(12),
                x -> x.run(0, 11, 0, 0, true));
        refused("promise 18, run: no pattern 12 of 12", INDEX, () -> States.withPatterns(12),
                x -> x.run(0, 12, 0, 0, true));
        due("promise 18, run: a result stays when tokens come", 6, States::rich, x -> {
            x.token(0, 1, 1, 1);
            return x.size(0);
        });
    }

    private static void sizesOfSides() {
        for (int side = 0; side < 2; side++) {
            int s = side;
            for (int bound = 0; bound < 3; bound++) {
                int b = bound;
                String of = "side " + s + ", bound " + b;
                Start empty = () -> States.ready("", ".");
                due("promise 18, run: empty " + of, 0, empty, x -> x.run(0, 0, s, b, true));
                due("promise 18, run: a result of an empty " + of, 0, empty, x -> {
                    x.run(0, 0, s, b, false);
                    return x.size(0);
                });
                due("promise 19, walk: empty " + of, 0, empty, x -> x.walk(0, s, b, true));
                Start full = () -> {
                    Corpusline x = States.withTokens(s, 40);
                    Build.pattern(x, ".{13");
                    return x;
                };
                seen("promise 18, run: full " + of + ", the last matches", "40 3703 3802 3901",
                        full, x -> {
                            int count = x.run(0, 0, s, b, true);
                            return count + " " + x.match(0, 37) + " " + x.match(0, 38) + " "
                                    + x.match(0, 39);
                        });
                due("promise 19, walk: full " + of, 4017, full, x -> x.walk(0, s, b, true));
                due("promise 19, walk: full " + of + ", shortest", 4040, full,
                        x -> x.walk(0, s, b, false));
            }
        }
        seen("promise 18, run: eight tokens at the end of a full side", "33 3208", () -> {
            Corpusline x = States.withTokens(0, 40);
            Build.pattern(x, ".{22{22{22");
            return x;
        }, x -> x.run(0, 0, 0, 0, true) + " " + x.match(0, 32));
        due("promise 18, run: one token, and a pattern of one", 1, () -> States.ready("1", "."),
                x -> x.run(0, 0, 0, 0, true));
        due("promise 18, run: one token, and a pattern of two", 0, () -> States.ready("1", "..+"),
                x -> x.run(0, 0, 0, 0, true));
        due("promise 18, run: the row of none is no match, longest", 0,
                () -> States.ready("123", "4{03"), x -> x.run(0, 0, 0, 0, true));
        due("promise 18, run: the row of none is no match, shortest", 0,
                () -> States.ready("123", "4{03"), x -> x.run(0, 0, 0, 0, false));
        due("promise 19, walk: the row of none is no match", 0, () -> States.ready("123", "4{03"),
                x -> x.walk(0, 0, 0, false));
    }

    /** A test of a run's matches on the side 0, and one of a walk, both with one bound. */
    private static void within(String name, String words, String pattern, int bound,
            boolean isLongest, String matches) {
        String of = name + ", bound " + bound + (isLongest ? ", longest" : ", shortest");
        int count = 0;
        int tokens = 0;
        for (String match : matches.isEmpty() ? new String[0] : matches.split(" ")) {
            count++;
            tokens += Integer.parseInt(match.substring(match.indexOf('+') + 1));
        }
        seen("promise 18, run: " + of, matches, () -> States.ready(words, pattern), x -> {
            x.run(0, 0, 0, bound, isLongest);
            return Build.matches(x, 0);
        });
        unchanged("promise 19, walk: " + of, count * 100 + tokens, () -> States.ready(words, pattern),
                x -> x.walk(0, 0, bound, isLongest));
    }

    /** Longest rows with each bound, and shortest ones. */
    private static void within(String name, String words, String pattern, String[] longest,
            String[] shortest) {
        for (int bound = 0; bound < 3; bound++) {
            within(name, words, pattern, bound, true, longest[bound]);
            within(name, words, pattern, bound, false, shortest[bound]);
        }
    }

    private static void bounds() {
        within("a row just up to a sentence's end", "12,3", "12+",
                new String[] {"0+2", "0+2", "0+2"}, new String[] {"0+2", "0+2", "0+2"});
        within("a row just over a sentence's end", "12,3", "23+",
                new String[] {"1+2", "", "1+2"}, new String[] {"1+2", "", "1+2"});
        within("a row just up to a text's end", "12;3", "12+",
                new String[] {"0+2", "0+2", "0+2"}, new String[] {"0+2", "0+2", "0+2"});
        within("a row just over a text's end", "12;3", "23+",
                new String[] {"1+2", "", ""}, new String[] {"1+2", "", ""});
        within("a row just behind an end", "1;23", "23+",
                new String[] {"1+2", "1+2", "1+2"}, new String[] {"1+2", "1+2", "1+2"});
        within("a row over a whole sentence", "1,2,3", "12+3+",
                new String[] {"0+3", "", "0+3"}, new String[] {"0+3", "", "0+3"});
        within("a longer row over a sentence's end", "1,23", "12{01+3{01+",
                new String[] {"0+3", "0+1", "0+3"}, new String[] {"0+1", "0+1", "0+1"});
        within("a longer row over a text's end", "12;3", "12{01+3{01+",
                new String[] {"0+3", "0+2", "0+2"}, new String[] {"0+1", "0+1", "0+1"});
        within("sentences and a text of one token each", "1,2;3", ".{13",
                new String[] {"0+3 1+2 2+1", "0+1 1+1 2+1", "0+2 1+1 2+1"},
                new String[] {"0+1 1+1 2+1", "0+1 1+1 2+1", "0+1 1+1 2+1"});
        within("an end behind the last token", "12;", "12+",
                new String[] {"0+2", "0+2", "0+2"}, new String[] {"0+2", "0+2", "0+2"});
        within("at least two tokens", "11,1;11", "1{23",
                new String[] {"0+3 1+3 2+3 3+2", "0+2 3+2", "0+3 1+2 3+2"},
                new String[] {"0+2 1+2 2+2 3+2", "0+2 3+2", "0+2 1+2 3+2"});
        within("a label over an end", "12,1;1", ".A.+a+",
                new String[] {"0+3", "", "0+3"}, new String[] {"0+3", "", "0+3"});
        within("an empty side", "", ".{13", new String[] {"", "", ""}, new String[] {"", "", ""});
        within("a longest of three lengths", "111", "1{13",
                new String[] {"0+3 1+2 2+1", "0+3 1+2 2+1", "0+3 1+2 2+1"},
                new String[] {"0+1 1+1 2+1", "0+1 1+1 2+1", "0+1 1+1 2+1"});
        within("one length left out between", "123", "112+3+|",
                new String[] {"0+3", "0+3", "0+3"}, new String[] {"0+1", "0+1", "0+1"});
    }

    private static void boundsOfSides() {
        Start unlike = () -> {
            Corpusline x = States.ready("11;11", "..+");
            Build.words(x, 1, "1,1,11");
            return x;
        };
        int[][] counts = {{3, 2, 2}, {3, 1, 3}};
        for (int side = 0; side < 2; side++) {
            for (int bound = 0; bound < 3; bound++) {
                int s = side;
                int b = bound;
                int count = counts[s][b];
                due("promise 18, run: the ends of the side " + s + ", bound " + b, count, unlike,
                        x -> x.run(0, 0, s, b, true));
                due("promise 19, walk: the ends of the side " + s + ", bound " + b, count * 102,
                        unlike, x -> x.walk(0, s, b, false));
            }
        }
    }

    /** A side 0 of sentences of so many tokens, and a pattern. */
    private static Corpusline ofSentences(String pattern, int... lengths) {
        Corpusline x = new Corpusline();
        for (int length : lengths) {
            States.addTokens(x, 0, length);
            x.end(0, false);
        }
        Build.pattern(x, pattern);
        return x;
    }

    /** How many tokens the matches have is told by the remainder by 100. */
    private static void walkRemainders() {
        due("promise 19, walk: 99 tokens together", 3499, () -> ofSentences(".{13", 34),
                x -> x.walk(0, 0, Corpusline.SENTENCE, true));
        due("promise 19, walk: 100 tokens together", 3500, () -> ofSentences(".{13", 34, 1),
                x -> x.walk(0, 0, Corpusline.SENTENCE, true));
        due("promise 19, walk: 101 tokens together", 3601, () -> ofSentences(".{13", 34, 1, 1),
                x -> x.walk(0, 0, Corpusline.SENTENCE, true));
        due("promise 19, walk: 192 tokens together", 2492, () -> ofSentences(".{22{22{22", 31),
                x -> x.walk(0, 0, Corpusline.SENTENCE, true));
        due("promise 19, walk: 200 tokens together", 2500, () -> ofSentences(".{22{22{22", 32),
                x -> x.walk(0, 0, Corpusline.SENTENCE, true));
        due("promise 19, walk: 264 tokens together, the most of 8", 3364,
                () -> ofSentences(".{22{22{22", 40), x -> x.walk(0, 0, Corpusline.NOWHERE, true));
        due("promise 19, walk: 40 tokens in 40 matches", 4040, () -> ofSentences(".", 20, 20),
                x -> x.walk(0, 0, Corpusline.SENTENCE, true));
        due("promise 19, walk: no match has no tokens", 0, () -> ofSentences("..+", 1, 1, 1),
                x -> x.walk(0, 0, Corpusline.SENTENCE, true));
    }

    private static void walkChangesNothing() {
        Start[] starts = {States::rich, () -> States.fullSide(0), () -> States.fullSide(1),
            () -> States.withPatterns(12), () -> States.withPile("........")};
        long[][] due = {{606, 404}, {0, 102}, {102, 0}, {606, 404}, {606, 404}};
        for (int i = 0; i < starts.length; i++) {
            for (int side = 0; side < 2; side++) {
                int s = side;
                unchanged("promise 19, walk: it changes nothing, state " + i + ", side " + s,
                        due[i][s], starts[i], x -> x.walk(0, s, Corpusline.NOWHERE, true));
            }
        }
        due("promise 19, walk: no result is made", -1, States::rich, x -> {
            x.walk(0, 0, 0, true);
            return x.size(4);
        });
        due("promise 19, walk: the 512th call", 303, () -> States.ready("111", "1"), x -> {
            // The words and the pattern are five calls; one is asked last.
            for (int i = 0; i < 506; i++) {
                x.walk(0, i % 2, i % 3, i % 4 < 2);
            }
            return x.walk(0, 0, Corpusline.TEXT, true);
        });
        due("promise 19, walk: the twelfth pattern", 606, () -> States.withPatterns(12),
                x -> x.walk(11, 0, 0, true));
    }

    public static void main(String[] args) {
        runThrows();
        walkThrows();
        runWithin();
        sizesOfSides();
        bounds();
        boundsOfSides();
        walkRemainders();
        walkChangesNothing();
        finish(18, 19);
    }
}
