/** Boundary cases of the promises 20 to 27, each a test of its own. */
public final class ResultCasesTest extends Cases {
    /** Numbers of which there is no result in the rich state. */
    private static final int[] NO_RESULTS = {-1, States.RICH_RESULTS, 7, 8, MIN, MAX};
    private static final int[] NO_PATTERNS = {-1, States.RICH_PATTERNS, 11, 12, MIN, MAX};
    private static final int[] WRONG = {-1, 3, MIN, MAX};
    private static final String[] HOWS = {"either", "both", "without"};

    /** Results 0, 1 and so on of patterns on the side 0: their longest matches anywhere. */
    private static Corpusline results(String words, String... patterns) {
        Corpusline x = new Corpusline();
        Build.words(x, 0, words);
        for (int i = 0; i < patterns.length; i++) {
            x.run(i, Build.pattern(x, patterns[i]), 0, Corpusline.NOWHERE, true);
        }
        return x;
    }

    private static Corpusline dropped(int result) {
        Corpusline x = States.rich();
        x.drop(result);
        return x;
    }

    /** 40 tokens on the side 0, and in the result 0 each row of up to so many of them. */
    private static Corpusline fullOfRows(int longest) {
        Corpusline x = States.withTokens(0, 40);
        for (int length = 1; length <= longest; length++) {
            Build.put(x, "........".substring(0, length) + "+++++++".substring(0, length - 1));
            x.run(length == 1 ? 0 : 1, x.keep(), 0, Corpusline.NOWHERE, true);
            if (length > 1) {
                x.join(0, 1, Corpusline.EITHER);
            }
        }
        return x;
    }

    private static void joinThrows() {
        for (int none : NO_RESULTS) {
            for (int how = 0; how < 3; how++) {
                int h = how;
                String of = "promise 20, join: " + HOWS[h];
                refused(of + ", no result " + none, INDEX, States::rich, x -> x.join(none, 0, h));
                refused(of + ", no other result " + none, INDEX, States::rich,
                        x -> x.join(0, none, h));
                refused(of + ", no result " + none + " with itself", INDEX, States::rich,
                        x -> x.join(none, none, h));
            }
            refused("promise 20, join: no result " + none + " ahead of how", INDEX, States::rich,
                    x -> x.join(none, 0, 3));
            refused("promise 20, join: no other result " + none + " ahead of how", INDEX,
                    States::rich, x -> x.join(2, none, -1));
        }
        for (int how : WRONG) {
            refused("promise 20, join: how " + how, ARGUMENT, States::rich, x -> x.join(0, 1, how));
            refused("promise 20, join: how " + how + " with itself", ARGUMENT, States::rich,
                    x -> x.join(0, 0, how));
            refused("promise 20, join: how " + how + " of empty ones", ARGUMENT, States::rich,
                    x -> x.join(3, 3, how));
            refused("promise 20, join: how " + how + " ahead of unlike sides", ARGUMENT,
                    States::rich, x -> x.join(0, 2, how));
        }
        for (int how = 0; how < 3; how++) {
            int h = how;
            String of = "promise 20, join: unlike sides, " + HOWS[h];
            refused(of + ", 0 with 2", STATE, States::rich, x -> x.join(0, 2, h));
            refused(of + ", 2 with 0", STATE, States::rich, x -> x.join(2, 0, h));
            refused(of + ", an empty one with 2", STATE, States::rich, x -> x.join(3, 2, h));
            refused(of + ", 2 with an empty one", STATE, States::rich, x -> x.join(2, 3, h));
            refused("promise 20, join: a dropped one, " + HOWS[h], INDEX, () -> dropped(1),
                    x -> x.join(1, 0, h));
            refused("promise 20, join: with a dropped one, " + HOWS[h], INDEX, () -> dropped(1),
                    x -> x.join(0, 1, h));
        }
        refused("promise 20, join: no results at all", INDEX, States::fresh, x -> x.join(0, 0, 0));
    }

    /** Tests of each way to join the result 0 with the result 1: what it has, and how many. */
    private static void joins(String name, Start start, String... due) {
        for (int how = 0; how < 3; how++) {
            int h = how;
            String of = "promise 20, join: " + name + ", " + HOWS[h];
            int count = due[h].isEmpty() ? 0 : due[h].split(" ").length;
            due(of + ", how many", count, start, x -> x.join(0, 1, h));
            seen(of + ", the matches", due[h], start, x -> {
                x.join(0, 1, h);
                return Build.matches(x, 0);
            });
            seen(of + ", the other one stays", Build.matches(start.make(), 1), start, x -> {
                x.join(0, 1, h);
                return Build.matches(x, 1);
            });
        }
    }

    private static void joins() {
        joins("some alike", () -> results("123", "12|", "23|"), "0+1 1+1 2+1", "1+1", "0+1");
        joins("all alike", () -> results("12", ".", "."), "0+1 1+1", "0+1 1+1", "");
        joins("none alike", () -> results("12", "1", "2"), "0+1 1+1", "", "0+1");
        joins("first places alike, lengths unlike", () -> results("123", "..+", "."),
                "0+1 0+2 1+1 1+2 2+1", "", "0+2 1+2");
        joins("last places alike", () -> results("123", ".3+", "3"), "1+2 2+1", "", "1+2");
        joins("with an empty one", () -> results("12", ".", "3"), "0+1 1+1", "", "0+1 1+1");
        joins("an empty one with another", () -> results("12", "3", "."), "0+1 1+1", "", "");
        joins("two empty ones", () -> results("12", "3", "4"), "", "", "");
        joins("of an empty side", () -> results("", ".", "."), "", "", "");
        for (int how = 0; how < 3; how++) {
            int h = how;
            String of = ", " + HOWS[h];
            long same = h == Corpusline.WITHOUT ? 0 : 6;
            due("promise 20, join: with itself" + of, same, States::rich, x -> x.join(0, 0, h));
            due("promise 20, join: with itself" + of + ", it is there", same, States::rich, x -> {
                x.join(0, 0, h);
                return x.size(0);
            });
            due("promise 20, join: an empty one with itself" + of, 0, States::rich,
                    x -> x.join(3, 3, h));
            due("promise 20, join: results of the side 1" + of, h == 2 ? 0 : 4, () -> {
                Corpusline x = States.rich();
                x.run(7, 2, 1, Corpusline.TEXT, true);
                return x;
            }, x -> x.join(7, 2, h));
            due("promise 20, join: full ones" + of, h == 2 ? 252 : h == 0 ? 292 : 40, () -> {
                Corpusline x = fullOfRows(8);
                x.run(2, 0, 0, 0, true);
                return x;
            }, x -> x.join(0, 2, h));
        }
    }

    private static void thinThrows() {
        for (int none : NO_RESULTS) {
            refused("promise 21, thin: no result " + none, INDEX, States::rich, x -> x.thin(none));
            refused("promise 23, drop: no result " + none, INDEX, States::rich, x -> x.drop(none));
        }
        for (int result = 0; result < States.RICH_RESULTS; result++) {
            int r = result;
            refused("promise 21, thin: the dropped result " + r, INDEX, () -> dropped(r),
                    x -> x.thin(r));
            refused("promise 23, drop: the dropped result " + r, INDEX, () -> dropped(r),
                    x -> x.drop(r));
        }
    }

    private static void thins(String name, Start start, String due) {
        int count = due.isEmpty() ? 0 : due.split(" ").length;
        due("promise 21, thin: " + name + ", how many", count, start, x -> x.thin(0));
        seen("promise 21, thin: " + name + ", the matches", due, start, x -> {
            x.thin(0);
            return Build.matches(x, 0);
        });
        seen("promise 21, thin: " + name + ", twice", due, start, x -> {
            x.thin(0);
            x.thin(0);
            return Build.matches(x, 0);
        });
    }

    /** The results of patterns, joined to the result 0. */
    private static Corpusline joined(String words, String... patterns) {
        Corpusline x = results(words, patterns);
        for (int i = 1; i < patterns.length; i++) {
            x.join(0, i, Corpusline.EITHER);
        }
        return x;
    }

    private static void thin() {
        thins("an empty one", () -> results("12", "3"), "");
        thins("an empty one of an empty side", () -> results("", "."), "");
        thins("one match", () -> results("12", "2"), "1+1");
        thins("two that touch", () -> results("1212", "12+"), "0+2 2+2");
        thins("two that have one token both", () -> results("121", "12+21+|"), "0+2");
        thins("three, each on the next one", () -> results("1111", "11+"), "0+2 2+2");
        thins("of one first place the longest", () -> joined("123", "1", "12+", "12+3+"), "0+3");
        thins("one within a longer one", () -> joined("123", "12+3+", "2"), "0+3");
        thins("the last token of a longer one", () -> joined("123", "12+3+", "3"), "0+3");
        thins("just behind a longer one", () -> joined("1234", "12+3+", "4"), "0+3 3+1");
        thins("a shorter one ahead of a longer one", () -> joined("1234", "1", "23+4+"),
                "0+1 1+3");
        thins("a shorter one that begins ahead stays", () -> joined("1234", "12+", "23+4+"), "0+2");
        thins("one that goes takes none with it", () -> joined("1234", "12+", "23+", "34+"),
                "0+2 2+2");
        thins("one that goes and is longer takes none with it",
                () -> joined("12345", "12+", "23+4+", "3", "45+"), "0+2 2+1 3+2");
        due("promise 21, thin: 40 that touch", 40, () -> fullOfRows(1), x -> x.thin(0));
        due("promise 21, thin: all rows of up to 3 on a full side", 14, () -> fullOfRows(3),
                x -> x.thin(0));
        due("promise 21, thin: the last one of them", 3901, () -> fullOfRows(3), x -> {
            x.thin(0);
            return x.match(0, 13);
        });
        due("promise 21, thin: all rows of up to 8 on a full side", 5, () -> fullOfRows(8),
                x -> x.thin(0));
        due("promise 21, thin: the last one of 8", 3208, () -> fullOfRows(8), x -> {
            x.thin(0);
            return x.match(0, 4);
        });
        due("promise 21, thin: of the side 1", 3, States::rich, x -> x.thin(2));
        due("promise 21, thin: the others stay", 4, States::rich, x -> {
            x.thin(1);
            return x.size(2);
        });
        unchanged("promise 21, thin: nothing is on another one", 6, States::rich, x -> x.thin(0));
        unchanged("promise 21, thin: nothing is in it", 0, States::rich, x -> x.thin(3));
    }

    private static void alignedThrows() {
        for (boolean isNone : new boolean[] {false, true}) {
            String of = "promise 22, aligned: none " + isNone;
            for (int none : NO_RESULTS) {
                refused(of + ", no result " + none, INDEX, States::rich,
                        x -> x.aligned(none, 0, isNone));
                refused(of + ", no result " + none + ", no pattern", INDEX, States::rich,
                        x -> x.aligned(none, States.RICH_PATTERNS, isNone));
            }
            for (int none : NO_PATTERNS) {
                refused(of + ", no pattern " + none, INDEX, States::rich,
                        x -> x.aligned(0, none, isNone));
                refused(of + ", no pattern " + none + ", an empty result", INDEX, States::rich,
                        x -> x.aligned(3, none, isNone));
            }
            refused(of + ", a dropped result", INDEX, () -> dropped(2),
                    x -> x.aligned(2, 0, isNone));
            refused(of + ", nothing is there", INDEX, States::fresh, x -> x.aligned(0, 0, isNone));
            due(of + ", an empty result", 0, States::rich, x -> x.aligned(3, 0, isNone));
            due(of + ", the twelfth pattern", isNone ? 0 : 6, () -> States.withPatterns(12),
                    x -> x.aligned(0, 11, isNone));
            refused(of + ", no pattern 12 of 12", INDEX, () -> States.withPatterns(12),
                    x -> x.aligned(0, 12, isNone));
        }
    }

    /** The side 0: 12,34,5 and the side 1: 1,2;33,4; and the result 0 of single tokens. */
    private static Corpusline withPairs(String pattern, int... pairs) {
        Corpusline x = results("12,34,5", ".");
        Build.words(x, 1, "1,2;33,4");
        for (int i = 0; i < pairs.length; i += 2) {
            x.align(pairs[i], pairs[i + 1]);
        }
        Build.pattern(x, pattern);
        return x;
    }

    private static void aligned(String name, Start start, String some, String none) {
        for (boolean isNone : new boolean[] {false, true}) {
            String due = isNone ? none : some;
            int count = due.isEmpty() ? 0 : due.split(" ").length;
            String of = "promise 22, aligned: " + name + ", none " + isNone;
            due(of + ", how many", count, start, x -> x.aligned(0, 1, isNone));
            seen(of + ", the matches", due, start, x -> {
                x.aligned(0, 1, isNone);
                return Build.matches(x, 0);
            });
        }
    }

    private static void aligned(String name, String pattern, String some, String none,
            int... pairs) {
        aligned(name, () -> withPairs(pattern, pairs), some, none);
    }

    private static void aligned() {
        String all = "0+1 1+1 2+1 3+1 4+1";
        String first = "0+1 1+1";
        String butFirst = "2+1 3+1 4+1";
        aligned("no pairs", ".", "", all);
        aligned("the first sentences", ".", first, butFirst, 0, 0);
        aligned("the last sentences", ".", "4+1", "0+1 1+1 2+1 3+1", 2, 3);
        aligned("all sentences", ".", all, "", 0, 0, 1, 1, 2, 3);
        aligned("the pattern is not in the partner", "2", "", all, 0, 0);
        aligned("the pattern is in another one alone", "4", "", all, 0, 0, 1, 1, 2, 2);
        aligned("the pattern is in its own sentence alone", "5", "", all, 2, 3);
        aligned("the first partner of three has it", "1", first, butFirst, 0, 0, 0, 1, 0, 2);
        aligned("the last partner of three has it", "4", first, butFirst, 0, 0, 0, 1, 0, 3);
        aligned("no partner of three has it", "9", "", all, 0, 0, 0, 1, 0, 3);
        aligned("two with one partner", "2", "0+1 1+1 4+1", "2+1 3+1", 0, 1, 2, 1);
        aligned("a row up to the sentence's end", "33+", first, butFirst, 0, 2);
        aligned("a row over a sentence's end", "34+", "", all, 0, 2, 0, 3);
        aligned("a row over a text's end", "23+", "", all, 0, 1, 0, 2);
        aligned("a row over it, and a shorter one", "34{01+", first, butFirst, 0, 2);
        aligned("the row of none is no row", "9{03", "", all, 0, 0, 1, 1);
        aligned("labels are not set at first", "a", "", all, 0, 0, 1, 2);
        aligned("labels", ".Aa+", first, butFirst, 0, 2, 1, 1);
        aligned("the other side is empty", () -> {
            Corpusline x = results("12,3", ".");
            Build.pattern(x, ".");
            return x;
        }, "", "0+1 1+1 2+1");
        aligned("its own side is empty", () -> {
            Corpusline x = results("", ".");
            Build.words(x, 1, "12");
            Build.pattern(x, ".");
            return x;
        }, "", "");
        aligned("by the sentence of the first token, a row over its end", () -> {
            Corpusline x = results("12,34", "23+");
            Build.words(x, 1, "1,2");
            x.align(0, 0);
            Build.pattern(x, ".");
            return x;
        }, "1+2", "");
        aligned("by the sentence of the first token, not by that of the last one", () -> {
            Corpusline x = results("12,34", "23+");
            Build.words(x, 1, "1,2");
            x.align(1, 1);
            Build.pattern(x, ".");
            return x;
        }, "", "1+2");
        aligned("several matches with one first place", () -> {
            Corpusline x = joined("12,3", ".", ".{22");
            Build.words(x, 1, "45");
            x.align(0, 0);
            return x;
        }, "0+1 0+2 1+1 1+2", "2+1");
    }

    /** Keeps a pattern of one token with one of these words. */
    private static int oneOf(Corpusline x, int... words) {
        for (int i = 0; i < words.length; i++) {
            x.test(Corpusline.WORD, words[i], false);
            if (i > 0) {
                x.either();
            }
        }
        return x.keep();
    }

    private static void alignedStates() {
        aligned("a pair that comes behind the run", () -> {
            Corpusline x = withPairs(".");
            x.align(1, 3);
            return x;
        }, "2+1 3+1", "0+1 1+1 4+1");
        aligned("a token that comes behind the run", () -> {
            Corpusline x = withPairs("8", 0, 3);
            x.token(1, 8, 0, 0);
            return x;
        }, "0+1 1+1", "2+1 3+1 4+1");
        aligned("of the side 1", () -> {
            Corpusline x = withPairs("34+", 1, 0, 2, 3);
            x.run(0, 0, 1, 0, true);
            return x;
        }, "0+1", "1+1 2+1 3+1 4+1");
        aligned("of the side 1, several partners", () -> {
            Corpusline x = withPairs("5", 0, 2, 1, 2, 2, 2);
            x.run(0, 0, 1, 0, true);
            return x;
        }, "2+1 3+1", "0+1 1+1 4+1");
        aligned("of the side 1, the first of several partners has it", () -> {
            Corpusline x = withPairs("2", 0, 2, 1, 2, 2, 2);
            x.run(0, 0, 1, 0, true);
            return x;
        }, "2+1 3+1", "0+1 1+1 4+1");
        for (int side = 0; side < 2; side++) {
            int s = side;
            aligned("full sides, the corners, of the side " + s, () -> {
                Corpusline x = States.withSentences(40);
                int[] pairs = {0, 39, 39, 0, 31, 32, 32, 31};
                for (int i = 0; i < pairs.length; i += 2) {
                    x.align(pairs[i], pairs[i + 1]);
                }
                x.run(0, oneOf(x, 0, 31, 32, 39), s, 0, true);
                oneOf(x, 39, 32);
                return x;
            }, "0+1 31+1", "32+1 39+1");
        }
        due("promise 22, aligned: others stay", 6, States::rich, x -> {
            x.run(7, 0, 0, 0, true);
            x.aligned(7, 0, true);
            return x.size(0);
        });
        due("promise 22, aligned: the result is there though none stays", 0, States::rich, x -> {
            x.aligned(0, 0, true);
            return x.size(0);
        });
        unchanged("promise 22, aligned: all stay", 6, States::rich, x -> x.aligned(0, 0, false));
    }

    private static void dropAndSize() {
        int[] sizes = {6, 6, 4, 0};
        for (int result = 0; result < States.RICH_RESULTS; result++) {
            int r = result;
            due("promise 23, drop: result " + r, sizes[r], States::rich, x -> x.drop(r));
            due("promise 23, drop: result " + r + " is gone", -1, () -> dropped(r), x -> x.size(r));
            due("promise 23, drop: the one beside " + r + " stays", sizes[r ^ 1], () -> dropped(r),
                    x -> x.size(r ^ 1));
            due("promise 23, drop: nothing stays of " + r + " when it comes anew", 0,
                    () -> dropped(r), x -> x.run(r, 3, 1, 0, true));
            due("promise 23, drop: " + r + " comes anew on the other side", 4, () -> dropped(r),
                    x -> x.run(r, 0, 1, 0, true));
            unchanged("promise 24, size: result " + r, sizes[r], States::rich, x -> x.size(r));
        }
        for (int none : NO_RESULTS) {
            unchanged("promise 24, size: no result " + none, Corpusline.NONE, States::rich,
                    x -> x.size(none));
        }
        for (int result = 0; result < 8; result++) {
            int r = result;
            Start eight = () -> {
                Corpusline x = States.rich();
                for (int i = 0; i < 8; i++) {
                    x.run(i, 0, i % 2, 0, true);
                }
                return x;
            };
            due("promise 24, size: result " + r + " of 8", 6 - r % 2 * 2, eight, x -> x.size(r));
            due("promise 23, drop: result " + r + " of 8", 6 - r % 2 * 2, eight, x -> x.drop(r));
            due("promise 23, drop: result " + r + " of 8, the next one stays", 4 + r % 2 * 2, eight,
                    x -> {
                        x.drop(r);
                        return x.size((r + 1) % 8);
                    });
            due("promise 24, size: a new object has no result " + r, -1, States::fresh,
                    x -> x.size(r));
        }
        due("promise 24, size: no matches", 0, () -> results("1", "2"), x -> x.size(0));
        due("promise 24, size: of an empty side", 0, () -> results("", "."), x -> x.size(0));
        due("promise 24, size: a full side", 40, () -> fullOfRows(1), x -> x.size(0));
        due("promise 24, size: all rows of up to 8", 292, () -> fullOfRows(8), x -> x.size(0));
        due("promise 23, drop: all rows of up to 8", 292, () -> fullOfRows(8), x -> x.drop(0));
        due("promise 23, drop: one with none left", 0, () -> {
            Corpusline x = States.rich();
            x.join(0, 0, Corpusline.WITHOUT);
            return x;
        }, x -> x.drop(0));
        refused("promise 23, drop: no results at all", INDEX, States::fresh, x -> x.drop(0));
    }

    private static void match() {
        for (int none : NO_RESULTS) {
            for (int match : new int[] {0, -1}) {
                refused("promise 25, match: no result " + none + ", match " + match, INDEX,
                        States::rich, x -> x.match(none, match));
            }
        }
        int[] sizes = {6, 6, 4, 0};
        for (int result = 0; result < States.RICH_RESULTS; result++) {
            int r = result;
            int[] none = {-1, sizes[r], sizes[r] + 1, MIN, MAX};
            for (int match : none) {
                refused("promise 25, match: result " + r + " has no match " + match, INDEX,
                        States::rich, x -> x.match(r, match));
            }
            refused("promise 25, match: the dropped result " + r, INDEX, () -> dropped(r),
                    x -> x.match(r, 0));
        }
        unchanged("promise 25, match: the first", 1, States::rich, x -> x.match(0, 0));
        unchanged("promise 25, match: the last", 501, States::rich, x -> x.match(0, 5));
        seen("promise 25, match: the shorter one first where first places are the same",
                "0+1 0+2 0+3 1+1 1+2 2+1", () -> joined("123", "12+3+", "12+", ".", "23+"),
                x -> Build.matches(x, 0));
        due("promise 25, match: one token at the last place", 3901, () -> fullOfRows(1),
                x -> x.match(0, 39));
        int[][] full = {{0, 1}, {7, 8}, {8, 101}, {255, 3108}, {256, 3201}, {263, 3208},
            {264, 3301}, {270, 3307}, {271, 3401}, {290, 3802}, {291, 3901}};
        for (int[] f : full) {
            due("promise 25, match: the number " + f[0] + " of all rows of up to 8", f[1],
                    () -> fullOfRows(8), x -> x.match(0, f[0]));
        }
        refused("promise 25, match: all rows of up to 8, one more", INDEX, () -> fullOfRows(8),
                x -> x.match(0, 292));
        refused("promise 25, match: of an empty side", INDEX, () -> results("", "."),
                x -> x.match(0, 0));
        refused("promise 25, match: one that has gone", INDEX, () -> {
            Corpusline x = results("111", "11+");
            x.thin(0);
            return x;
        }, x -> x.match(0, 1));
    }

    private static void groupThrows() {
        for (boolean isLast : new boolean[] {false, true}) {
            String groups = "promise 26, groups: last " + isLast;
            String at = "promise 27, groupAt: last " + isLast;
            for (int none : NO_RESULTS) {
                for (int attribute : new int[] {0, 3, -1}) {
                    String of = ", no result " + none + ", attribute " + attribute;
                    refused(groups + of, INDEX, States::rich,
                            x -> x.groups(none, attribute, isLast));
                    refused(at + of, INDEX, States::rich,
                            x -> x.groupAt(none, attribute, isLast, 0));
                    refused(at + of + ", no group", INDEX, States::rich,
                            x -> x.groupAt(none, attribute, isLast, -1));
                }
            }
            for (int attribute : WRONG) {
                for (int result : new int[] {0, 3}) {
                    String of = ", result " + result + ", attribute " + attribute;
                    refused(groups + of, ARGUMENT, States::rich,
                            x -> x.groups(result, attribute, isLast));
                    for (int group : new int[] {0, -1, 5, 100, MIN, MAX}) {
                        refused(at + of + ", group " + group, ARGUMENT, States::rich,
                                x -> x.groupAt(result, attribute, isLast, group));
                    }
                }
            }
            refused(groups + ", a dropped result", INDEX, () -> dropped(0),
                    x -> x.groups(0, 0, isLast));
            refused(at + ", a dropped result", INDEX, () -> dropped(0),
                    x -> x.groupAt(0, 0, isLast, 0));
            refused(groups + ", no results at all", INDEX, States::fresh,
                    x -> x.groups(0, 0, isLast));
            refused(at + ", no results at all", INDEX, States::fresh,
                    x -> x.groupAt(0, 0, isLast, 0));
        }
    }

    /** Tests of a result 0: how many groups, each of them, and none beyond them. */
    private static void groups(String name, Start start, int attribute, boolean isLast,
            int... due) {
        String of = name + ", attribute " + attribute + ", last " + isLast;
        unchanged("promise 26, groups: " + of, due.length, start,
                x -> x.groups(0, attribute, isLast));
        for (int i = 0; i < due.length; i++) {
            int group = i;
            unchanged("promise 27, groupAt: " + of + ", group " + group, due[group], start,
                    x -> x.groupAt(0, attribute, isLast, group));
        }
        int[] none = {-1, due.length, due.length + 1, MIN, MAX};
        for (int group : none) {
            refused("promise 27, groupAt: " + of + ", no group " + group, INDEX, start,
                    x -> x.groupAt(0, attribute, isLast, group));
        }
    }

    private static Corpusline withTokens(int[][] tokens, String pattern) {
        Corpusline x = new Corpusline();
        for (int[] t : tokens) {
            x.token(0, t[0], t[1], t[2]);
        }
        x.run(0, Build.pattern(x, pattern), 0, Corpusline.NOWHERE, true);
        return x;
    }

    private static void groups() {
        int[][] tokens = {{7, 1, 40}, {99, 2, 40}, {7, 3, 41}, {0, 2, 49}, {99, 2, 0}, {7, 9, 49}};
        for (int attribute = 0; attribute < 3; attribute++) {
            groups("no matches", () -> withTokens(tokens, "5"), attribute, false);
            groups("no matches", () -> withTokens(tokens, "5"), attribute, true);
            groups("an empty side", () -> withTokens(new int[0][], "."), attribute, false);
            groups("the values 0", () -> withTokens(new int[][] {{0, 0, 0}}, "."), attribute,
                    true, 1000);
        }
        int[][] greatest = {{99, 9, 49}};
        groups("the greatest values", () -> withTokens(greatest, "."), 0, false, 1099);
        groups("the greatest values", () -> withTokens(greatest, "."), 1, false, 1009);
        groups("the greatest values", () -> withTokens(greatest, "."), 2, false, 1049);
        groups("single tokens", () -> withTokens(tokens, "."), 0, false, 3007, 2099, 1000);
        groups("single tokens", () -> withTokens(tokens, "."), 1, true, 3002, 1001, 1003, 1009);
        groups("of as many the lesser value", () -> withTokens(tokens, "."), 2, false, 2040, 2049,
                1000, 1041);
        groups("pairs", () -> withTokens(tokens, "..+"), 1, false, 3002, 1001, 1003);
        groups("pairs", () -> withTokens(tokens, "..+"), 1, true, 3002, 1003, 1009);
        groups("pairs", () -> withTokens(tokens, "..+"), 2, false, 2040, 1000, 1041, 1049);
        groups("pairs", () -> withTokens(tokens, "..+"), 2, true, 2049, 1000, 1040, 1041);
        groups("the side 1", () -> {
            Corpusline x = withTokens(tokens, ".");
            x.token(1, 7, 0, 5);
            x.run(0, 0, 1, Corpusline.NOWHERE, true);
            return x;
        }, 0, true, 1007);
        groups("several matches with one first place", () -> joined("12", ".", ".{12"), 0, false,
                2001, 1002);
        groups("several matches with one last place", () -> joined("12", ".", ".{12"), 0, true,
                2002, 1001);
    }

    private static void fullGroups() {
        due("promise 26, groups: 40 values", 40, () -> fullOfRows(1), x -> x.groups(0, 0, false));
        due("promise 26, groups: 10 kinds", 10, () -> fullOfRows(1), x -> x.groups(0, 1, true));
        due("promise 27, groupAt: the last of 40", 1039, () -> fullOfRows(1),
                x -> x.groupAt(0, Corpusline.ROOT, true, 39));
        due("promise 27, groupAt: the last of 10 kinds", 4009, () -> fullOfRows(1),
                x -> x.groupAt(0, Corpusline.KIND, true, 9));
        refused("promise 27, groupAt: no group 40 of 40", INDEX, () -> fullOfRows(1),
                x -> x.groupAt(0, Corpusline.WORD, false, 40));
        refused("promise 27, groupAt: no group 10 of 10", INDEX, () -> fullOfRows(1),
                x -> x.groupAt(0, Corpusline.KIND, false, 10));
        due("promise 27, groupAt: the last of 33 of eight matches", 8032, () -> fullOfRows(8),
                x -> x.groupAt(0, Corpusline.WORD, false, 32));
        due("promise 27, groupAt: the one of seven behind them", 7033, () -> fullOfRows(8),
                x -> x.groupAt(0, Corpusline.WORD, false, 33));
        due("promise 27, groupAt: the one of one match, by last tokens", 1000,
                () -> fullOfRows(8), x -> x.groupAt(0, Corpusline.WORD, true, 39));
        due("promise 27, groupAt: 292 matches of one kind", 292005, () -> {
            Corpusline x = new Corpusline();
            for (int i = 0; i < 40; i++) {
                x.token(0, 1, 5, 2);
            }
            for (int length = 1; length <= 8; length++) {
                Build.put(x, "........".substring(0, length) + "+++++++".substring(0, length - 1));
                x.run(length == 1 ? 0 : 1, x.keep(), 0, Corpusline.NOWHERE, true);
                x.join(0, length == 1 ? 0 : 1, Corpusline.EITHER);
            }
            return x;
        }, x -> x.groupAt(0, Corpusline.KIND, true, 0));
    }

    public static void main(String[] args) {
        joinThrows();
        joins();
        thinThrows();
        thin();
        alignedThrows();
        aligned();
        alignedStates();
        dropAndSize();
        match();
        groupThrows();
        groups();
        fullGroups();
        finish(20, 27);
    }
}
