/** Boundary cases of the promises 8 to 17, each a test of its own. */
public final class PatternCasesTest extends Cases {
    /** Piles whose parts have 7 tests together, and how many parts they are. */
    private static final String[] OF_SEVEN = {".......", "....+++...", ".{13.{33.", "..+{23.",
        ".{03.{12.{22", "........&", ".{13{12.", "..|..|{02.", "..|.{03+.."};
    private static final int[] PARTS_OF_SEVEN = {7, 4, 3, 2, 3, 7, 2, 3, 3};
    /** Full piles: 8 tests each. */
    private static final String FULL = "........", FULL_CHAIN = "........+++++++",
            FULL_REPEAT = ".{22{22{22";
    private static final int[] WRONG = {-1, 3, MIN, MAX};

    /** A test that a pattern's longest and shortest matches on the side 0 are those. */
    private static void found(String name, String words, String pattern, String longest,
            String shortest) {
        Start start = () -> {
            Corpusline x = new Corpusline();
            Build.words(x, 0, words);
            return x;
        };
        seen(name + ", longest", longest, start, x -> Build.found(x, pattern, 0, true));
        seen(name + ", shortest", shortest, start, x -> Build.found(x, pattern, 0, false));
    }

    private static void found(String name, String words, String pattern, String matches) {
        found(name, words, pattern, matches, matches);
    }

    private static void test() {
        due("promise 8, test: the first part", 1, States::fresh, x -> x.test(0, 5, false));
        for (int attribute = 0; attribute < 3; attribute++) {
            int a = attribute;
            for (boolean isOther : new boolean[] {false, true}) {
                String of = "promise 8, test: attribute " + a + ", other " + isOther;
                due(of + ", value 0", 3, States::rich, x -> x.test(a, 0, isOther));
                due(of + ", value 99", 3, States::rich, x -> x.test(a, 99, isOther));
                int[] values = {-1, 100, MIN, MAX};
                for (int value : values) {
                    refused(of + ", value " + value, ARGUMENT, States::rich,
                            x -> x.test(a, value, isOther));
                    refused(of + ", value " + value + " ahead of a full pile", ARGUMENT,
                            () -> States.withPile(FULL), x -> x.test(a, value, isOther));
                }
            }
        }
        for (int attribute : WRONG) {
            refused("promise 8, test: attribute " + attribute, ARGUMENT, States::rich,
                    x -> x.test(attribute, 5, false));
            refused("promise 8, test: attribute " + attribute + ", no value", ARGUMENT,
                    States::rich, x -> x.test(attribute, 100, true));
            refused("promise 8, test: attribute " + attribute + " ahead of a full pile", ARGUMENT,
                    () -> States.withPile(FULL), x -> x.test(attribute, 5, true));
        }
    }

    /** The eighth test and the ninth one, of the three calls that put one. */
    private static void roomForTests() {
        String[] methods = {"promise 8, test", "promise 9, any", "promise 10, same"};
        Call[] puts = {x -> x.test(1, 4, true), x -> x.any(), x -> x.same(2, 1)};
        for (int i = 0; i < puts.length; i++) {
            Call put = puts[i];
            for (int k = 0; k < OF_SEVEN.length; k++) {
                String pile = OF_SEVEN[k];
                due(methods[i] + ": the eighth test, behind " + pile, PARTS_OF_SEVEN[k] + 1,
                        () -> States.withPile(pile), put);
                refused(methods[i] + ": no ninth test, behind " + pile + "5", STATE,
                        () -> States.withPile(pile + "5"), put);
            }
            refused(methods[i] + ": no ninth test, behind a chain of 8", STATE,
                    () -> States.withPile(FULL_CHAIN), put);
            refused(methods[i] + ": no ninth test, behind a repeat of 8", STATE,
                    () -> States.withPile(FULL_REPEAT), put);
            refused(methods[i] + ": no ninth test, behind an either-or on a full pile", STATE,
                    () -> States.withPile("........|"), put);
            due(methods[i] + ": room on a wiped pile", 1, () -> {
                Corpusline x = States.withPile(FULL);
                x.wipe();
                return x;
            }, put);
            due(methods[i] + ": room when a part of 8 tests is kept", 1, () -> {
                Corpusline x = States.withPile(FULL_REPEAT);
                x.keep();
                return x;
            }, put);
        }
    }

    private static void testMatches() {
        Start edges = () -> {
            Corpusline x = new Corpusline();
            x.token(0, 99, 9, 49);
            x.token(0, 0, 0, 0);
            x.token(0, 63, 4, 31);
            x.token(0, 64, 5, 32);
            return x;
        };
        String all = "0+1 1+1 2+1 3+1";
        Object[][] cases = {
            {0, 0, false, "1+1"}, {0, 0, true, "0+1 2+1 3+1"}, {0, 99, false, "0+1"},
            {0, 99, true, "1+1 2+1 3+1"}, {0, 63, false, "2+1"}, {0, 64, false, "3+1"},
            {0, 63, true, "0+1 1+1 3+1"}, {0, 64, true, "0+1 1+1 2+1"}, {0, 35, false, ""},
            {1, 0, false, "1+1"}, {1, 9, false, "0+1"}, {1, 9, true, "1+1 2+1 3+1"},
            {1, 10, false, ""}, {1, 10, true, all}, {1, 99, false, ""}, {1, 64, false, ""},
            {1, 68, true, all}, {2, 0, false, "1+1"}, {2, 49, false, "0+1"},
            {2, 49, true, "1+1 2+1 3+1"}, {2, 50, false, ""}, {2, 50, true, all}, {2, 99, true, all},
        };
        for (Object[] c : cases) {
            seen("promise 8, test: matches of attribute " + c[0] + ", value " + c[1] + ", other "
                    + c[2], (String) c[3], edges, x -> {
                        x.test((int) c[0], (int) c[1], (boolean) c[2]);
                        x.run(0, x.keep(), 0, 0, true);
                        return Build.matches(x, 0);
                    });
        }
        found("promise 8, test: on an empty side", "", "1", "");
        found("promise 8, test: the first token and the last one", "121", "1", "0+1 2+1");
        due("promise 9, any: the first part", 1, States::fresh, x -> x.any());
        due("promise 9, any: a third part", 3, States::rich, x -> x.any());
        due("promise 9, any: all of a full side", 4040, () -> States.withTokens(0, 40), x -> {
            x.any();
            return x.walk(x.keep(), 0, 0, true);
        });
        found("promise 9, any: on an empty side", "", ".", "");
        found("promise 9, any: of one token", "7", ".", "0+1");
    }

    private static void same() {
        due("promise 10, same: the first part", 1, States::fresh, x -> x.same(2, 2));
        for (int attribute = 0; attribute < 3; attribute++) {
            int a = attribute;
            for (int label = 0; label < 3; label++) {
                int b = label;
                due("promise 10, same: attribute " + a + ", label " + b, 3, States::rich,
                        x -> x.same(a, b));
            }
            for (int label : WRONG) {
                refused("promise 10, same: attribute " + a + ", label " + label, ARGUMENT,
                        States::rich, x -> x.same(a, label));
            }
        }
        for (int wrong : WRONG) {
            refused("promise 10, same: attribute " + wrong, ARGUMENT, States::rich,
                    x -> x.same(wrong, 2));
            refused("promise 10, same: attribute and label " + wrong, ARGUMENT, States::rich,
                    x -> x.same(wrong, wrong));
            refused("promise 10, same: attribute " + wrong + " ahead of a full pile", ARGUMENT,
                    () -> States.withPile(FULL), x -> x.same(wrong, 0));
            refused("promise 10, same: label " + wrong + " ahead of a full pile", ARGUMENT,
                    () -> States.withPile(FULL), x -> x.same(0, wrong));
        }
    }

    private static void sameMatches() {
        found("promise 10, same: on an empty side", "", ".Aa+", "");
        found("promise 10, same: the label is not set", "111", "a", "");
        found("promise 10, same: other labels are set", "1111", ".A.B+c+", "");
        found("promise 10, same: the label is set behind it", "11", "a.A+", "");
        found("promise 10, same: set to the place 0", "11", ".Aa+", "0+2");
        found("promise 10, same: set to the place 0, unlike", "12", ".Aa+", "");
        found("promise 10, same: set seven tokens ahead", "12345671", ".A......a+++++++", "0+8");
        found("promise 10, same: set seven tokens ahead, unlike", "12345678", ".A......a+++++++",
                "");
        found("promise 10, same: not set from the place ahead", "12", "12A+a|", "0+2");
        found("promise 10, same: not set from the other way", "11", "1A2+1a+|", "");
        seen("promise 10, same: not set from the run ahead", "", () -> {
            Corpusline x = new Corpusline();
            Build.words(x, 0, "1111");
            Build.pattern(x, ".A");
            x.run(0, 0, 0, 0, true);
            return x;
        }, x -> Build.found(x, "a", 0, true));
        for (int attribute = 0; attribute < 3; attribute++) {
            for (int label = 0; label < 3; label++) {
                int a = attribute;
                int b = label;
                seen("promise 10, same: attribute " + a + ", label " + b + " set to the place 38",
                        "20 3802", PatternCasesTest::fullOfPairs, x -> {
                            x.any();
                            x.label(b);
                            x.same(a, b);
                            x.chain();
                            int count = x.run(0, x.keep(), 0, 0, true);
                            return count + " " + x.match(0, count - 1);
                        });
            }
        }
        seen("promise 10, same: three labels set to the last places", "35+5",
                PatternCasesTest::fullWithLastFive, x -> {
                    Build.put(x, ".A.B.C");
                    sames(x, 0, 1, 2);
                    sames(x, 2, 0, 1);
                    for (int i = 0; i < 4; i++) {
                        x.chain();
                    }
                    x.run(0, x.keep(), 0, 0, true);
                    return Build.matches(x, 0);
                });
    }

    /** Puts a test of the word of one label's token, the kind of another one's, and the root. */
    private static void sames(Corpusline x, int word, int kind, int root) {
        x.same(Corpusline.WORD, word);
        x.same(Corpusline.KIND, kind);
        x.both();
        x.same(Corpusline.ROOT, root);
        x.both();
    }

    /** 40 tokens, of which each at an even place is like the next one, and unlike other ones. */
    private static Corpusline fullOfPairs() {
        Corpusline x = new Corpusline();
        for (int i = 0; i < 40; i++) {
            x.token(0, i / 2, i % 4 / 2, 49 - i / 2);
        }
        return x;
    }

    private static Corpusline fullWithLastFive() {
        Corpusline x = new Corpusline();
        for (int i = 0; i < 35; i++) {
            x.token(0, 10 + i, 0, 0);
        }
        int[][] last = {{1, 1, 1}, {2, 2, 2}, {3, 3, 3}, {1, 2, 3}, {3, 1, 2}};
        for (int[] t : last) {
            x.token(0, t[0], t[1], t[2]);
        }
        return x;
    }

    private static void label() {
        String[] tests = {".", "5", "a", ".A", ".ABC", "..&", ".A.B&", "...&&", ".A.&B", "..+.",
            "..|5", ".{12a", FULL, ".......&."};
        for (String pile : tests) {
            for (int label = 0; label < 3; label++) {
                int b = label;
                due("promise 11, label: " + b + " to the last test of " + pile, 0,
                        () -> States.withPile(pile), x -> labelled(x, b));
                due("promise 11, label: " + b + " to the last test of " + pile + ", twice", 0,
                        () -> States.withPile(pile), x -> labelled(x, b) + labelled(x, b));
            }
        }
        String[] noTests = {"", "..+", "..|", ".{12", ".{11", ".{01", "a{22", "...+", ".A.B|",
            "..&.+", ".A{11", "........+", FULL_CHAIN, FULL_REPEAT};
        for (String pile : noTests) {
            for (int label = 0; label < 3; label++) {
                int b = label;
                refused("promise 11, label: " + b + ", the last of '" + pile + "' is no test",
                        STATE, () -> States.withPile(pile), x -> labelled(x, b));
            }
            for (int label : WRONG) {
                refused("promise 11, label: no label " + label + " ahead of '" + pile + "'",
                        ARGUMENT, () -> States.withPile(pile), x -> labelled(x, label));
            }
        }
        for (int label : WRONG) {
            refused("promise 11, label: no label " + label, ARGUMENT, States::rich,
                    x -> labelled(x, label));
        }
        refused("promise 11, label: no part, as it is kept", STATE, () -> {
            Corpusline x = States.withPile(".A");
            x.keep();
            return x;
        }, x -> labelled(x, 0));
        refused("promise 11, label: no part, as it is wiped", STATE, () -> {
            Corpusline x = States.withPile(".A");
            x.wipe();
            return x;
        }, x -> labelled(x, 2));
    }

    private static void labelMatches() {
        found("promise 11, label: all three", "1111", ".ABCa+b+c+", "0+4");
        found("promise 11, label: all three, one token unlike", "1121", ".ABCa+b+c+", "");
        found("promise 11, label: the same one twice", "11", ".AAa+", "0+2");
        found("promise 11, label: in place of what it was set to", "122", ".A.A+a+", "0+3");
        found("promise 11, label: what it was set to is gone", "121", ".A.A+a+", "");
        found("promise 11, label: the others stay", "1221", ".A.B+b+a+", "0+4");
        found("promise 11, label: the others stay, unlike", "1223", ".A.B+b+a+", "");
        found("promise 11, label: not set while its test matches", "11", "aA", "");
        found("promise 11, label: set in one part of an either-or", "1213", "1A2|.+a+", "0+3");
        int[] kinds = {0, 1};
        for (int kind : kinds) {
            seen("promise 11, label: read by its test, then set to its token, kind " + kind,
                    kind == 0 ? "" : "0+3", () -> {
                        Corpusline x = new Corpusline();
                        x.token(0, 1, 0, 0);
                        x.token(0, 1, 1, 0);
                        x.token(0, 5, kind, 0);
                        return x;
                    }, x -> {
                        Build.put(x, ".AaA+");
                        x.same(Corpusline.KIND, 0);
                        x.chain();
                        x.run(0, x.keep(), 0, 0, true);
                        return Build.matches(x, 0);
                    });
        }
    }

    private static void both() {
        String[] wrong = {"", ".", ".{11", "..{11", ".{11.", "...+", "..+.", "..|..|", "...|",
            "..|.", ".{01.{01", "........+", "..{22.{33", ".{22{22{22", "..&", "..&..+"};
        for (String pile : wrong) {
            refused("promise 12, both: of '" + pile + "'", STATE, () -> States.withPile(pile),
                    x -> x.both());
        }
        String[] right = {"..", "...", ".A.B", "..&.", "...&", "..+..", ".{22..", FULL, "aB1C"};
        int[] parts = {1, 2, 1, 1, 1, 2, 2, 7, 1};
        for (int i = 0; i < right.length; i++) {
            String pile = right[i];
            due("promise 12, both: of " + pile, parts[i], () -> States.withPile(pile),
                    x -> x.both());
        }
        due("promise 12, both: it counts one", 3, () -> States.withPile("..&"),
                x -> x.repeat(3, 3));
        due("promise 12, both: of 8 tests, one by one", 1, () -> States.withPile(FULL), x -> {
            int left = 0;
            for (int i = 0; i < 7; i++) {
                left = x.both();
            }
            return left;
        });
        found("promise 12, both: a token that both match", "123", "2.&", "1+1");
        found("promise 12, both: a token that the first one matches alone", "1", "12&", "");
        found("promise 12, both: a token that the second one matches alone", "2", "12&", "");
        found("promise 12, both: it has the labels of the first one", "1211", ".A.&.+a+", "0+3");
        found("promise 12, both: it has the labels of the second one", "1211", "..A&.+a+", "0+3");
        found("promise 12, both: it has the labels of both", "1111", ".A.B&a+b+", "0+3 1+3");
        found("promise 12, both: it sets no label when one of them matches", "21", "2A1&.|a+", "");
        found("promise 12, both: a label is not set while it matches", "11", ".Aa&", "");
        found("promise 12, both: a label as it was set ahead", "121", ".A.+.Aa&+", "0+3");
        found("promise 12, both: two labels that are compared", "111", ".A.B+ab&+", "0+3");
        found("promise 12, both: two labels, one of them unlike", "121", ".A.B+ab&+", "");
        found("promise 12, both: two labels, one of them not set", "111", ".A.+ab&+", "");
    }

    /** A joined test may compare all attributes with one label, or with each of them. */
    private static void bothOfAllAttributes() {
        Start start = () -> {
            Corpusline x = new Corpusline();
            int[][] tokens = {{1, 2, 3}, {1, 2, 3}, {1, 2, 4}, {1, 5, 4}, {6, 5, 4}, {6, 5, 4}};
            for (int[] t : tokens) {
                x.token(0, t[0], t[1], t[2]);
            }
            return x;
        };
        for (int label = 0; label < 3; label++) {
            int b = label;
            seen("promise 12, both: all attributes of the label " + b, "0+2 4+2", start, x -> {
                x.any();
                x.label(b);
                sames(x, b, b, b);
                x.chain();
                x.run(0, x.keep(), 0, 0, true);
                return Build.matches(x, 0);
            });
        }
        seen("promise 12, both: all attributes of all labels", "0+2 4+2", start, x -> {
            Build.put(x, ".ABC");
            for (int i = 0; i < 3; i++) {
                sames(x, i, i, i);
            }
            Build.put(x, "&&+");
            x.run(0, x.keep(), 0, 0, true);
            return Build.matches(x, 0);
        });
    }

    private static void chainAndEither() {
        String[] wrong = {"", ".", "..&", ".{11", FULL_CHAIN, FULL_REPEAT, ".....|||+"};
        for (String pile : wrong) {
            refused("promise 13, chain: of '" + pile + "'", STATE, () -> States.withPile(pile),
                    x -> x.chain());
            refused("promise 14, either: of '" + pile + "'", STATE, () -> States.withPile(pile),
                    x -> x.either());
        }
        String[] right = {"..", "...", FULL, "..+.", "..|.{22", "..&..&", ".{22{22.{22{22",
            ".{33.{33.."};
        int[] parts = {1, 2, 7, 1, 1, 1, 1, 3};
        for (int i = 0; i < right.length; i++) {
            String pile = right[i];
            due("promise 13, chain: of " + pile, parts[i], () -> States.withPile(pile),
                    x -> x.chain());
            due("promise 14, either: of " + pile, parts[i], () -> States.withPile(pile),
                    x -> x.either());
        }
        for (boolean isKept : new boolean[] {false, true}) {
            Start one = () -> {
                Corpusline x = States.withPile("..+");
                if (isKept) {
                    x.keep();
                } else {
                    x.wipe();
                }
                x.any();
                return x;
            };
            refused("promise 13, chain: one part, the others are kept " + isKept, STATE, one,
                    x -> x.chain());
            refused("promise 14, either: one part, the others are kept " + isKept, STATE, one,
                    x -> x.either());
        }
    }

    private static void chainMatches() {
        found("promise 13, chain: on an empty side", "", "12+", "");
        found("promise 13, chain: on a side of one token", "1", "12+", "");
        found("promise 13, chain: the order of the parts", "1221", "21+", "2+2");
        found("promise 13, chain: up to the last token", "312", "12+", "1+2");
        found("promise 13, chain: beyond the last token", "3121", "12+", "1+2");
        found("promise 13, chain: the first one matches none too", "12", "1{012+", "0+2 1+1");
        found("promise 13, chain: the second one matches none too", "12", "12{01+", "0+2", "0+1");
        found("promise 13, chain: both match none too", "12", "1{012{01+", "0+2 1+1", "0+1 1+1");
        found("promise 13, chain: both match none alone", "33", "1{012{01+", "");
        found("promise 13, chain: none twice, then some", "312", "1{012{01+3+", "0+1");
        found("promise 13, chain: some, then none twice", "312", "31{012{01++", "0+3", "0+1");
        found("promise 13, chain: labels of the first one", "11", ".Aa+", "0+2");
        found("promise 13, chain: labels of the second one are not for the first one", "11",
                "a.A+", "");
        found("promise 13, chain: eight tokens of a side of eight", "12345678",
                "12345678+++++++", "0+8");
        found("promise 13, chain: eight tokens of a side of seven", "1234567", "1234567.+++++++",
                "");
        found("promise 14, either: on an empty side", "", "12|", "");
        found("promise 14, either: each of them", "123", "12|", "0+1 1+1");
        found("promise 14, either: of both the longer and the shorter", "112", "112+|", "0+1 1+2",
                "0+1 1+1");
        found("promise 14, either: of both, turned", "112", "12+1|", "0+1 1+2", "0+1 1+1");
        found("promise 14, either: of the same two", "12", "11|", "0+1");
        found("promise 14, either: one matches none too", "13", "12{01|3+", "0+2 1+1");
        found("promise 14, either: one matches none alone", "3", "12{01|", "");
        found("promise 14, either: labels of the one that matches", "3133", "1A3B|.+a+", "");
        found("promise 14, either: labels of the one that matches, alike", "1211", "1A3B|.+a+",
                "0+3");
        String unlike = ".A.+..A+|";
        found("promise 14, either: labels unlike on two ways, the first fits", "1213",
                unlike + "a+", "0+3");
        found("promise 14, either: labels unlike on two ways, the second fits", "1223",
                unlike + "a+", "0+3");
        found("promise 14, either: labels unlike on two ways that meet, the first fits", "1231",
                unlike + ".+a+", "0+4");
        found("promise 14, either: labels unlike on two ways that meet, the second fits", "1232",
                unlike + ".+a+", "0+4");
        found("promise 14, either: labels unlike on two ways that meet, none fits", "1233",
                unlike + ".+a+", "");
        found("promise 14, either: eight tests, each of one token", "818", "12345678|||||||",
                "0+1 1+1 2+1");
        found("promise 14, either: eight tests, of which the last one ends it", "8181",
                "12+3+45+|67+|8|", "0+1 2+1");
    }

    private static void repeatRanges() {
        for (int least = -1; least <= 4; least++) {
            for (int most = -1; most <= 4; most++) {
                int l = least;
                int m = most;
                String of = "promise 15, repeat: " + l + " to " + m;
                if (l >= 0 && m >= 1 && m <= 3 && l <= m) {
                    due(of, 2 + m, States::rich, x -> x.repeat(l, m));
                    continue;
                }
                refused(of, ARGUMENT, States::rich, x -> x.repeat(l, m));
                refused(of + " ahead of no part", ARGUMENT, States::fresh, x -> x.repeat(l, m));
                refused(of + " ahead of a full pile", ARGUMENT, () -> States.withPile(FULL),
                        x -> x.repeat(l, m));
            }
        }
        int[][] far = {{MIN, 3}, {0, MAX}, {MAX, MAX}, {MIN, MIN}, {MAX, 3}, {0, MIN}, {MAX, MIN}};
        for (int[] f : far) {
            refused("promise 15, repeat: " + f[0] + " to " + f[1], ARGUMENT, States::rich,
                    x -> x.repeat(f[0], f[1]));
        }
        refused("promise 15, repeat: no part", STATE, States::fresh, x -> x.repeat(0, 1));
        refused("promise 15, repeat: no part beside patterns", STATE, States::richButPile,
                x -> x.repeat(3, 3));
        refused("promise 15, repeat: no part, as it is kept", STATE, () -> {
            Corpusline x = States.withPile("..+");
            x.keep();
            return x;
        }, x -> x.repeat(1, 2));
    }

    private static void repeatRoom() {
        // The pile, how many times at most, and how many tests there are then.
        Object[][] cases = {
            {".", 3, 3}, {"......+", 2, 8}, {"....+++", 2, 8}, {"....+", 3, 8}, {".......", 2, 8},
            {"......", 3, 8}, {".{22{22", 2, 8}, {".{33", 2, 6}, {"........", 1, 8},
            {FULL_CHAIN, 1, 8}, {FULL_REPEAT, 1, 8}, {"........&", 2, 8}, {"..&", 3, 3},
            {".{33.", 3, 6}, {"..|..|", 3, 8}, {".{03..+", 2, 7}, {"..|{13", 1, 6},
        };
        for (Object[] c : cases) {
            String pile = (String) c[0];
            int most = (int) c[1];
            for (int least = 0; least <= most; least++) {
                int l = least;
                due("promise 15, repeat: " + pile + ", " + l + " to " + most + ", tests",
                        (int) c[2], () -> States.withPile(pile), x -> x.repeat(l, most));
            }
        }
        Object[][] tooMany = {{".......+", 2}, {"...++", 3}, {".....+++", 2},
            {FULL, 2}, {FULL, 3}, {FULL_CHAIN, 2}, {FULL_REPEAT, 3}, {".......", 3},
            {".....+", 3}, {".{33", 3}, {".{22{22", 3}, {"........&", 3}, {".....++++", 2},
            {"...|..|", 3}, {".{03..++", 2}, {".{13.{13..+", 2}};
        for (Object[] t : tooMany) {
            String pile = (String) t[0];
            int most = (int) t[1];
            for (int least = 0; least <= most; least++) {
                int l = least;
                refused("promise 15, repeat: " + pile + ", " + l + " to " + most + ", too many",
                        STATE, () -> States.withPile(pile), x -> x.repeat(l, most));
            }
        }
        due("promise 15, repeat: two parts stay two", 2, () -> {
            Corpusline x = States.withPile("......+");
            x.wipe();
            Build.put(x, "..{13");
            return x;
        }, x -> x.wipe());
    }

    private static void repeatMatches() {
        found("promise 15, repeat: on an empty side", "", "1{13", "");
        found("promise 15, repeat: the row of none is no match", "22", "1{03", "");
        found("promise 15, repeat: from none, the shortest is one token", "11", "1{03", "0+2 1+1",
                "0+1 1+1");
        found("promise 15, repeat: at most 1", "111", "1{01", "0+1 1+1 2+1");
        found("promise 15, repeat: at most 2", "1112", "1{12", "0+2 1+2 2+1", "0+1 1+1 2+1");
        found("promise 15, repeat: at most 3", "1111", "1{13", "0+3 1+3 2+2 3+1",
                "0+1 1+1 2+1 3+1");
        found("promise 15, repeat: at least 2", "1112", "1{23", "0+3 1+2", "0+2 1+2");
        found("promise 15, repeat: just 2", "1112", "1{22", "0+2 1+2");
        found("promise 15, repeat: just 3", "1111", "1{33", "0+3 1+3");
        found("promise 15, repeat: one too few", "11211", "1{33", "");
        found("promise 15, repeat: one too many between", "211113", "21{13+3+", "");
        found("promise 15, repeat: as many as at most between", "21113", "21{13+3+", "0+5");
        found("promise 15, repeat: none between", "23", "21{03+3+", "0+2");
        found("promise 15, repeat: one too few between", "23", "21{13+3+", "");
        found("promise 15, repeat: of a part that matches none too, just 2", "111", "1{01{22",
                "0+2 1+2 2+1", "0+1 1+1 2+1");
        found("promise 15, repeat: of a repeat, up to 8 tokens", "111111111", "1{02{02{02",
                "0+8 1+8 2+7 3+6 4+5 5+4 6+3 7+2 8+1", "0+1 1+1 2+1 3+1 4+1 5+1 6+1 7+1 8+1");
        found("promise 15, repeat: of a repeat, 8 tokens", "111111111", "1{22{22{22", "0+8 1+8");
        found("promise 15, repeat: a label from the time ahead", "1213", "1A2+a|{22", "0+3");
        found("promise 15, repeat: the label of the last time", "1233", ".A{13a+",
                "0+4 1+3 2+2");
        found("promise 15, repeat: a label of one time or of two, one fits", "1213",
                ".A{12.+a+", "0+3");
        found("promise 15, repeat: a label of one time or of two, both fit", "1232",
                ".A{12.+a+", "0+4 1+3");
        found("promise 15, repeat: a label of one time or of two, none fits", "1231",
                ".A{12.+a+", "");
        found("promise 15, repeat: no label of no times", "111", "1A{01a+", "0+2 1+2");
    }

    private static void keep() {
        due("promise 16, keep: the first pattern", 0, () -> {
            Corpusline x = States.fresh();
            x.any();
            return x;
        }, x -> x.keep());
        String[] one = {".", "..+", "..|", "..&", ".{03", FULL_CHAIN, FULL_REPEAT, ".ABC"};
        for (String pile : one) {
            due("promise 16, keep: one part, " + pile, 4, () -> States.withPile(pile),
                    x -> x.keep());
            due("promise 16, keep: the pile is empty then, " + pile, 0, () -> {
                Corpusline x = States.withPile(pile);
                x.keep();
                return x;
            }, x -> x.wipe());
        }
        String[] notOne = {"", "..", "...", FULL, "..+.", ".{22{22."};
        for (String pile : notOne) {
            refused("promise 16, keep: not just one part, '" + pile + "'", STATE,
                    () -> States.withPile(pile), x -> x.keep());
        }
        String[] piles = {"", ".", "..", ".{02", FULL, FULL_CHAIN};
        for (String pile : piles) {
            refused("promise 16, keep: 12 patterns, and on the pile '" + pile + "'", STATE, () -> {
                Corpusline x = States.withPatterns(12);
                Build.put(x, pile);
                return x;
            }, x -> x.keep());
        }
        due("promise 16, keep: the twelfth", 11, () -> {
            Corpusline x = States.withPatterns(11);
            x.test(0, 2, false);
            return x;
        }, x -> x.keep());
        due("promise 16, keep: the twelfth is run", 202, () -> {
            Corpusline x = States.withPatterns(11);
            x.test(0, 1, false);
            x.keep();
            return x;
        }, x -> x.walk(11, 0, 0, true));
        refused("promise 16, keep: no pattern 12 of 12", INDEX, () -> States.withPatterns(12),
                x -> x.walk(12, 0, 0, true));
        refused("promise 16, keep: no pattern 11 of 11", INDEX, () -> States.withPatterns(11),
                x -> x.walk(11, 0, 0, true));
    }

    /** A kept pattern stays as it is, whatever is done with the pile. */
    private static void keptPatterns() {
        String[] later = {"..A&", ".Aa+{02", ".{33", FULL, "..+..+|", "1A2B|"};
        for (String pile : later) {
            seen("promise 16, keep: a pattern stays when the pile is " + pile, "0+2 2+2", () -> {
                Corpusline x = States.ready("1122", ".Aa+");
                Build.put(x, pile);
                return x;
            }, x -> {
                x.run(0, 0, 0, 0, true);
                return Build.matches(x, 0);
            });
        }
        due("promise 16, keep: a pattern stays when the pile is wiped", 204, () -> {
            Corpusline x = States.ready("1122", ".Aa+");
            Build.put(x, "..");
            x.wipe();
            return x;
        }, x -> x.walk(0, 0, 0, true));
    }

    private static void wipe() {
        String[] piles = {"", ".", "..", "..+", "..+.", ".{33", FULL, FULL_CHAIN, FULL_REPEAT,
            "......."};
        int[] parts = {0, 1, 2, 1, 2, 1, 8, 1, 1, 7};
        for (int i = 0; i < piles.length; i++) {
            String pile = piles[i];
            due("promise 17, wipe: the pile '" + pile + "'", parts[i],
                    () -> States.withPile(pile), x -> x.wipe());
            Start wiped = () -> {
                Corpusline x = States.withPile(pile);
                x.wipe();
                return x;
            };
            due("promise 17, wipe: it is empty behind '" + pile + "'", 0, wiped, x -> x.wipe());
            refused("promise 17, wipe: nothing to keep behind '" + pile + "'", STATE, wiped,
                    x -> x.keep());
            due("promise 17, wipe: room for 8 tests behind '" + pile + "'", 8, wiped, x -> {
                Build.put(x, ".......");
                return x.any();
            });
        }
        unchanged("promise 17, wipe: an empty pile", 0, States::richButPile, x -> x.wipe());
        due("promise 17, wipe: patterns stay", 606, () -> {
            Corpusline x = States.rich();
            x.wipe();
            return x;
        }, x -> x.walk(0, 0, 0, true));
        due("promise 17, wipe: results stay", 6, () -> {
            Corpusline x = States.rich();
            x.wipe();
            return x;
        }, x -> x.size(0));
    }

    public static void main(String[] args) {
        test();
        roomForTests();
        testMatches();
        same();
        sameMatches();
        label();
        labelMatches();
        both();
        bothOfAllAttributes();
        chainAndEither();
        chainMatches();
        repeatRanges();
        repeatRoom();
        repeatMatches();
        keep();
        keptPatterns();
        wipe();
        finish(8, 17);
    }
}
