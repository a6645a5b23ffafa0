/** Promises 8 to 17: the pile of parts, what each part matches, and patterns that are kept. */
public final class PatternsTest {
    private static final int MIN = Integer.MIN_VALUE, MAX = Integer.MAX_VALUE;

    private static long labelled(Corpusline x, int label) {
        x.label(label);
        return 0;
    }

    /** Fills a new object's pile with tests. */
    private static Corpusline withTests(int count) {
        Corpusline x = new Corpusline();
        for (int i = 0; i < count; i++) {
            x.any();
        }
        return x;
    }

    private static Corpusline withWords(String words) {
        Corpusline x = new Corpusline();
        Build.words(x, 0, words);
        return x;
    }

    private static void found(String what, String words, String pattern, String longest,
            String shortest) {
        Corpusline x = withWords(words);
        Check.report(what + ", longest", Build.found(x, pattern, 0, true), longest);
        Check.report(what + ", shortest", Build.found(x, pattern, 0, false), shortest);
    }

    private static void test() {
        Corpusline x = new Corpusline();
        x.token(0, 5, 6, 7);
        x.token(0, 6, 5, 49);
        x.token(0, 99, 9, 5);
        Object[][] cases = {
            {0, 5, false, "0+1"}, {0, 5, true, "1+1 2+1"}, {1, 5, false, "1+1"},
            {1, 5, true, "0+1 2+1"}, {2, 5, false, "2+1"}, {2, 5, true, "0+1 1+1"},
            {0, 99, false, "2+1"}, {0, 99, true, "0+1 1+1"}, {1, 99, false, ""},
            {1, 10, true, "0+1 1+1 2+1"}, {2, 49, false, "1+1"}, {2, 50, true, "0+1 1+1 2+1"},
        };
        for (Object[] c : cases) {
            Check.due("8: first part", 1, () -> x.test((int) c[0], (int) c[1], (boolean) c[2]));
            int number = x.keep();
            x.run(0, number, 0, 0, true);
            Check.report("8: test " + c[0] + " " + c[1] + " " + c[2], Build.matches(x, 0),
                    (String) c[3]);
        }
        Check.due("8: part 1", 1, () -> x.test(0, 0, false));
        Check.due("8: part 2", 2, () -> x.test(2, 99, true));
        int[][] wrong = {{-1, 0}, {3, 0}, {0, -1}, {0, 100}, {MIN, 0}, {MAX, 0}, {1, MIN}, {2, MAX}};
        for (int[] w : wrong) {
            Check.argument("8: out of range", () -> x.test(w[0], w[1], false));
        }
        Check.due("8: a call that throws changes nothing", 2, () -> x.wipe());
        Corpusline full = withTests(8);
        Check.state("8: 8 tests", () -> full.test(0, 0, false));
        Check.argument("8: 8 tests, and out of range", () -> full.test(3, 0, false));
        Check.argument("8: 8 tests, and value out of range", () -> full.test(0, 100, false));
        Check.due("8: still 8", 8, () -> full.wipe());
    }

    private static void anyAndSame() {
        Corpusline x = withTests(7);
        Check.due("9: eighth", 8, () -> x.any());
        Check.state("9: ninth", () -> x.any());
        Check.state("10: ninth", () -> x.same(0, 0));
        Check.argument("10: attribute ahead of full", () -> x.same(3, 0));
        Check.argument("10: label ahead of full", () -> x.same(0, 3));
        Check.due("9: 8 parts", 8, () -> x.wipe());
        int[] wrong = {-1, 3, MIN, MAX};
        for (int w : wrong) {
            Check.argument("10: attribute " + w, () -> x.same(w, 0));
            Check.argument("10: label " + w, () -> x.same(0, w));
        }
        Check.due("10: nothing was put", 1, () -> x.same(2, 2));
        Check.due("10: the next", 2, () -> x.same(0, 0));
        found("9: any", "121", ".", "0+1 1+1 2+1", "0+1 1+1 2+1");
        found("10: no label is set", "111", "a", "", "");
        found("10: same word", "1121", ".Aa+", "0+2", "0+2");
        found("10: other labels are not set", "1111", ".Ab+", "", "");
        found("10: third label", "1221", ".C.+c+", "", "");
        found("10: third label at a distance", "1211", ".C.+c+", "0+3", "0+3");
    }

    private static void sameAttributes() {
        int[][] tokens = {{1, 2, 3}, {1, 3, 2}, {2, 3, 1}, {3, 1, 1}};
        String[] due = {"0+2", "1+2", "2+2"};
        for (int attribute = 0; attribute < 3; attribute++) {
            for (int label = 0; label < 3; label++) {
                Corpusline x = new Corpusline();
                for (int[] t : tokens) {
                    x.token(0, t[0], t[1], t[2]);
                }
                x.any();
                x.label(label);
                x.same(attribute, label);
                x.chain();
                x.run(0, x.keep(), 0, 0, true);
                Check.report("10: attribute " + attribute + ", label " + label,
                        Build.matches(x, 0), due[attribute]);
            }
        }
    }

    private static void label() {
        Corpusline x = new Corpusline();
        Check.state("11: no part", () -> labelled(x, 0));
        Check.argument("11: label 3 ahead of no part", () -> labelled(x, 3));
        x.any();
        int[] wrong = {-1, 3, MIN, MAX};
        for (int w : wrong) {
            Check.argument("11: label " + w, () -> labelled(x, w));
        }
        Check.due("11: a test", 0, () -> labelled(x, 0));
        Check.due("11: a test still", 0, () -> labelled(x, 2));
        Check.due("11: the same once more", 0, () -> labelled(x, 2));
        x.any();
        Check.due("11: both are tests still", 1, () -> x.both());
        Check.due("11: a joined test", 0, () -> labelled(x, 1));
        x.any();
        x.chain();
        Check.state("11: a chain", () -> labelled(x, 1));
        Check.argument("11: a chain, and label -1", () -> labelled(x, -1));
        x.any();
        Check.due("11: the last part is a test", 0, () -> labelled(x, 1));
        x.either();
        Check.state("11: an either-or", () -> labelled(x, 1));
        x.wipe();
        x.any();
        x.repeat(1, 1);
        Check.state("11: a repeat of one time", () -> labelled(x, 1));
        found("11: several labels", "12121", ".AB.+a+b+", "", "");
        found("11: several labels, matched", "12112", ".AB.+a+b+", "0+4", "0+4");
        found("11: a label is set anew", "12211", ".A.A+a+", "0+3 2+3", "0+3 2+3");
        found("11: the second label leaves the first", "1212", ".A.B+a+b+", "0+4", "0+4");
        found("11: labels are set when it has matched", "11", "aA", "", "");
        found("11: a test that reads and sets its label", "12132", ".A.+aA+", "0+3", "0+3");
    }

    private static void labelsAfterEnds() {
        // Each row is matched with no label set at first, also behind a row that set one.
        Corpusline x = withWords("1112");
        int set = Build.pattern(x, ".A");
        int read = Build.pattern(x, "a");
        x.run(0, set, 0, 0, true);
        Check.due("10: no label from another run", 0, () -> x.run(1, read, 0, 0, true));
        found("10: no label from another way", "11", "1A2+1a+|", "", "");
        found("10: from the way itself", "1123", "1A2+1Aa+|", "0+2 1+2", "0+2 1+2");
        found("10: ways that set labels unlike", "1231", ".A.B+..A+|.+b+", "", "");
        found("10: one of these ways fits", "1213", ".A.+.AB.+|a+", "0+3", "0+3");
        found("10: the other way fits", "1223", ".A.+..A+|a+", "0+3", "0+3");
        found("10: the label of a repeat's last time", "1233", ".A{13a+", "0+4 1+3 2+2", "0+4 1+3 2+2");
        found("10: a label from the time ahead", "1213", "1A2+a|{22", "0+3", "0+3");
        found("10: a label that is set or not", "111", "1A{01a+", "0+2 1+2", "0+2 1+2");
        found("10: a repeat of pairs", "112233", ".Aa+{13", "0+6 2+4 4+2", "0+2 2+2 4+2");
    }

    private static void both() {
        Corpusline x = new Corpusline();
        Check.state("12: none", () -> x.both());
        x.any();
        Check.state("12: one", () -> x.both());
        x.any();
        x.repeat(1, 1);
        Check.state("12: the last is no test", () -> x.both());
        x.any();
        Check.state("12: the one ahead is no test", () -> x.both());
        Check.due("12: nothing was changed", 3, () -> x.wipe());
        for (int i = 1; i <= 8; i++) {
            x.any();
        }
        Check.due("12: of 8", 7, () -> x.both());
        Check.due("12: counts one", 8, () -> x.any());
        Check.due("12: of 8 again", 7, () -> x.both());
        x.wipe();
        found("12: what both match", "123", "..&", "0+1 1+1 2+1", "0+1 1+1 2+1");
        found("12: one of them", "123", ".2&", "1+1", "1+1");
        found("12: none", "123", "12&", "", "");
        found("12: labels of both", "1221", ".A.B&.+b+", "", "");
        found("12: labels of the first", "1211", ".A.B&.+a+", "0+3", "0+3");
        found("12: labels of the second", "1211", ".A.B&.+b+", "0+3", "0+3");
        found("12: a label is set when the whole matches", "11", ".Aa&", "", "");
        found("12: the label that was set ahead", "121", ".A.+.Aa&+", "0+3", "0+3");
        found("12: two labels compared", "1211", ".A.+.B+ab&+", "0+4", "0+4");
        found("12: two labels of which one is unlike", "12321", ".A.B+.+ab&+", "", "");
        Corpusline y = new Corpusline();
        y.token(0, 1, 2, 3);
        y.token(0, 1, 3, 3);
        y.token(0, 2, 2, 3);
        y.test(0, 1, false);
        y.test(1, 3, true);
        y.both();
        y.test(2, 3, false);
        y.both();
        y.run(0, y.keep(), 0, 0, true);
        Check.report("12: of three attributes", Build.matches(y, 0), "0+1");
    }

    private static void bothOfSames() {
        int[][] tokens = {{1, 2, 3}, {1, 2, 4}, {1, 5, 4}, {6, 5, 4}, {6, 5, 4}, {6, 5, 4}};
        Corpusline x = new Corpusline();
        for (int[] t : tokens) {
            x.token(0, t[0], t[1], t[2]);
        }
        x.any();
        x.label(1);
        for (int attribute = 0; attribute < 3; attribute++) {
            x.same(attribute, 1);
        }
        x.both();
        x.both();
        x.chain();
        x.run(0, x.keep(), 0, 0, true);
        Check.report("12: the same in all attributes", Build.matches(x, 0), "3+2 4+2");
    }

    private static void manyBoths() {
        Corpusline x = withWords("123");
        x.test(0, 1, true);
        for (int i = 0; i < 200; i++) {
            x.test(0, i % 2 == 0 ? 3 : 9, true);
            x.both();
        }
        Check.due("12: many times", 0, () -> x.keep());
        x.run(0, 0, 0, 0, true);
        Check.report("12: many tests in one", Build.matches(x, 0), "1+1");
    }

    private static void chainAndEither() {
        Corpusline x = new Corpusline();
        Check.state("13: none", () -> x.chain());
        Check.state("14: none", () -> x.either());
        x.any();
        Check.state("13: one", () -> x.chain());
        Check.state("14: one", () -> x.either());
        Check.due("13: the part stays", 2, () -> x.any());
        Check.due("13: two", 1, () -> x.chain());
        x.any();
        Check.due("14: two", 1, () -> x.either());
        x.any();
        x.any();
        Check.due("14: of three", 2, () -> x.either());
        Check.due("13: of two", 1, () -> x.chain());
        x.any();
        x.any();
        x.any();
        Check.state("13: they have 8 tests together", () -> x.any());
        found("13: a chain", "12312", "12+", "0+2 3+2", "0+2 3+2");
        found("13: the order", "1221", "21+", "2+2", "2+2");
        found("13: chain of none and some", "1212", "1{012+", "0+2 1+1 2+2 3+1", "0+2 1+1 2+2 3+1");
        found("13: chain of some and none", "1212", "12{01+", "0+2 2+2", "0+1 2+1");
        found("13: chain of none and none", "12", "1{012{01+", "0+2 1+1", "0+1 1+1");
        found("13: none twice, ahead of some", "312323", "1{012{01+3+", "0+1 1+3 2+2 3+1 4+2 5+1",
                "0+1 1+3 2+2 3+1 4+2 5+1");
        found("13: some ahead of none twice", "312", "31{012{01++", "0+3", "0+1");
        found("13: none ahead of none or some", "1232", "1{012{013++", "0+3 1+2 2+1", "0+3 1+2 2+1");
        found("13: none only once", "13123", "12{01+3+", "0+2 2+3", "0+2 2+3");
        found("14: one of them", "123", "12|", "0+1 1+1", "0+1 1+1");
        found("14: of unlike length", "123", "112+|", "0+2", "0+1");
        found("14: the longer first", "123", "12+1|", "0+2", "0+1");
        found("14: with none, behind it", "123", "12{01|3+", "1+2 2+1", "1+2 2+1");
        found("14: with none, ahead in it", "132", "1{012|3+", "0+2 1+1", "0+2 1+1");
        found("14: without none", "1323", "12|3+", "0+2 2+2", "0+2 2+2");
        found("14: two ways to begin the first", "2123", "1{012+3|", "0+1 1+2 2+1 3+1", "0+1 1+2 2+1 3+1");
        found("14: two ways to begin the second", "2123", "31{012+|", "0+1 1+2 2+1 3+1", "0+1 1+2 2+1 3+1");
        found("14: two ways to end the first", "1213", "12{01+3|", "0+2 2+1 3+1", "0+1 2+1 3+1");
        found("14: two ways to end the second", "1213", "312{01+|", "0+2 2+1 3+1", "0+1 2+1 3+1");
        found("14: of chains", "1243", "12+34+|43+|", "0+2 2+2", "0+2 2+2");
        found("14: both fit, behind each", "1123", "112+|.+", "0+2 1+3", "0+2 1+2");
    }

    private static void repeat() {
        Corpusline x = new Corpusline();
        Check.state("15: no part", () -> x.repeat(0, 1));
        x.any();
        int[][] wrong = {{-1, 1}, {0, 0}, {0, 4}, {2, 1}, {3, 2}, {4, 4}, {3, 4}, {MIN, 3}, {0, MAX},
            {4, 3}, {0, -1}, {MAX, MAX}};
        for (int[] w : wrong) {
            Check.argument("15: " + w[0] + " to " + w[1], () -> x.repeat(w[0], w[1]));
            Check.argument("15: ahead of no part", () -> new Corpusline().repeat(w[0], w[1]));
        }
        Check.due("15: one time", 1, () -> x.repeat(1, 1));
        Check.due("15: 0 to 1", 1, () -> x.repeat(0, 1));
        Check.due("15: 2 to 3", 3, () -> x.repeat(2, 3));
        Check.due("15: of the repeat", 6, () -> x.repeat(0, 2));
        Check.state("15: too many", () -> x.repeat(2, 2));
        Check.argument("15: too many, and out of range", () -> x.repeat(2, 4));
        Check.due("15: nothing was changed", 2, () -> x.any());
        Check.due("15: with the other part's tests", 8, () -> x.repeat(2, 2));
        Check.state("15: 8 in all", () -> x.any());
        Check.state("15: no more", () -> x.repeat(0, 2));
        Check.due("15: once is no more", 8, () -> x.repeat(0, 1));
        Check.due("15: two parts", 2, () -> x.wipe());
        found("15: 1 to 3", "1111", ".{13", "0+3 1+3 2+2 3+1", "0+1 1+1 2+1 3+1");
        found("15: 0 to 2", "1121", "1{02", "0+2 1+1 3+1", "0+1 1+1 3+1");
        found("15: 2 to 3", "11112", "1{23", "0+3 1+3 2+2", "0+2 1+2 2+2");
        found("15: 3 to 3", "11112", "1{33", "0+3 1+3", "0+3 1+3");
        found("15: 2 to 2", "11112", "1{22", "0+2 1+2 2+2", "0+2 1+2 2+2");
        found("15: between", "1222213", "12{13+1+", "", "");
        found("15: between, fitting", "1222113", "12{13+1+", "0+5", "0+5");
        found("15: of none or some", "1111", "1{01{22", "0+2 1+2 2+2 3+1", "0+1 1+1 2+1 3+1");
        found("15: of a repeat", "11111111", "1{22{22", "0+4 1+4 2+4 3+4 4+4", "0+4 1+4 2+4 3+4 4+4");
        found("15: of an either-or", "121121", "12|{13", "0+3 1+3 2+3 3+3 4+2 5+1",
                "0+1 1+1 2+1 3+1 4+1 5+1");
        found("15: 8 tokens", "1111111111", "1{22{22{22", "0+8 1+8 2+8", "0+8 1+8 2+8");
        found("15: up to 8 tokens", "111111111", "1{02{02{02", "0+8 1+8 2+7 3+6 4+5 5+4 6+3 7+2 8+1",
                "0+1 1+1 2+1 3+1 4+1 5+1 6+1 7+1 8+1");
        found("15: none alone is no match", "12", "3{03", "", "");
    }

    private static void manyRepeats() {
        Corpusline x = withWords("123");
        x.test(0, 2, false);
        for (int i = 0; i < 400; i++) {
            Check.due("15: many times", 1, () -> x.repeat(1, 1));
        }
        for (int i = 0; i < 50; i++) {
            Check.due("15: many times or not", 1, () -> x.repeat(0, 1));
        }
        x.run(0, x.keep(), 0, 0, true);
        Check.report("15: many repeats", Build.matches(x, 0), "1+1");
    }

    private static void keepAndWipe() {
        Corpusline x = withWords("12");
        Check.state("16: no part", () -> x.keep());
        Check.due("17: no part", 0, () -> x.wipe());
        x.any();
        x.any();
        Check.state("16: two parts", () -> x.keep());
        Check.due("17: two parts", 2, () -> x.wipe());
        Check.due("17: they are gone", 0, () -> x.wipe());
        Check.state("17: no part is left", () -> x.keep());
        for (int i = 0; i < 12; i++) {
            int number = i;
            x.test(0, i % 3, false);
            Check.due("16: number " + i, number, () -> x.keep());
            Check.due("16: the pile is empty", 0, () -> x.wipe());
        }
        Check.due("16: the first", 0, () -> x.run(0, 0, 0, 0, true));
        Check.due("16: the eleventh", 1, () -> x.run(0, 10, 0, 0, true));
        Check.report("16: the twelfth", Build.matches(x, 0), "0+1");
        Check.due("16: the second", 101, () -> x.walk(1, 0, 0, true));
        x.any();
        Check.state("16: 12 patterns", () -> x.keep());
        Check.due("16: the part stays", 1, () -> x.wipe());
        Check.index("16: no pattern 12", () -> x.walk(12, 0, 0, true));
    }

    /** A pattern stays as it was kept, whatever is built of the same calls later. */
    private static void keptPatternsStay() {
        Corpusline x = withWords("1122");
        int pair = Build.pattern(x, ".Aa+");
        Build.put(x, ".Aa+{02");
        x.wipe();
        Check.due("16: pair", 204, () -> x.walk(pair, 0, 0, true));
        x.any();
        int any = x.keep();
        x.any();
        x.label(0);
        x.same(0, 0);
        x.both();
        Check.due("16: any", 404, () -> x.walk(any, 0, 0, true));
        Check.due("16: the first again", 204, () -> x.walk(pair, 0, 0, true));
    }

    public static void main(String[] args) {
        test();
        anyAndSame();
        sameAttributes();
        label();
        labelsAfterEnds();
        both();
        bothOfSames();
        manyBoths();
        chainAndEither();
        repeat();
        manyRepeats();
        keepAndWipe();
        keptPatternsStay();
        Check.finish();
    }
}
