/** Promises 20 to 27: results that are joined, thinned, kept by what is aligned, and grouped. */
public final class ResultsTest {
    private static final int MIN = Integer.MIN_VALUE, MAX = Integer.MAX_VALUE;
    private static final int[] NO_RESULTS = {-1, 5, 6, 8, MIN, MAX};

    /** A new object with a result of each pattern, run on the side 0; longest unless it has '!'. */
    private static Corpusline withResults(String words, String... patterns) {
        Corpusline x = new Corpusline();
        Build.words(x, 0, words);
        for (int i = 0; i < patterns.length; i++) {
            boolean isLongest = patterns[i].charAt(0) != '!';
            int number = Build.pattern(x, patterns[i].replace("!", ""));
            x.run(i, number, 0, 0, isLongest);
        }
        return x;
    }

    private static void join() {
        String[] due = {"0+1 0+2 1+1 2+1 2+2", "1+1", "0+2 2+2"};
        for (int how = 0; how < 3; how++) {
            Corpusline x = withResults("121", "1.{01+2|", "!.");
            x.run(0, Build.pattern(x, "1.+2|2.+|"), 0, 0, true);
            Build.words(x, 0, "9");
            // The result 0: 0+2 1+2 2+2 is thinned by hand to 0+2 1+1 2+2.
            x.run(0, Build.pattern(x, "1.+"), 0, 0, true);
            x.run(2, Build.pattern(x, "2"), 0, 0, true);
            x.join(0, 2, 0);
            Check.report("20: ahead of it", Build.matches(x, 0), "0+2 1+1 2+2");
            int h = how;
            long size = new int[] {5, 1, 2}[how];
            Check.due("20: how " + how, size, () -> x.join(0, 1, h));
            Check.report("20: how " + how, Build.matches(x, 0), due[how]);
            Check.report("20: the other stays", Build.matches(x, 1), "0+1 1+1 2+1");
        }
    }

    private static void joinWithItself() {
        long[] due = {3, 3, 0};
        for (int how = 0; how < 3; how++) {
            Corpusline x = withResults("121", ".");
            int h = how;
            Check.due("20: itself, how " + how, due[how], () -> x.join(0, 0, h));
            Check.due("20: itself, size", due[how], () -> x.size(0));
        }
        Corpusline x = withResults("1111", ".{13", "!.", ".{22", ".{33");
        Check.due("20: of none", 0, () -> x.join(3, 1, Corpusline.BOTH));
        Check.due("20: with one of none", 4, () -> x.join(1, 3, Corpusline.EITHER));
        Check.due("20: without one of none", 3, () -> x.join(2, 3, Corpusline.WITHOUT));
        Check.due("20: of none with some", 3, () -> x.join(3, 2, Corpusline.EITHER));
        Check.due("20: of unlike lengths", 4, () -> x.join(0, 1, Corpusline.WITHOUT) + 1);
        Check.report("20: lengths are kept apart", Build.matches(x, 0), "0+3 1+3 2+2");
    }

    private static void thin() {
        Corpusline x = withResults("11111", ".{13", "!.", ".{22");
        Check.due("21: of 0+3 1+3 2+3 3+2 4+1", 2, () -> x.thin(0));
        Check.report("21: the first stays", Build.matches(x, 0), "0+3 3+2");
        Check.due("21: once more", 2, () -> x.thin(0));
        Check.due("21: single tokens all stay", 5, () -> x.thin(1));
        x.join(1, 2, Corpusline.EITHER);
        Check.due("21: the longest of each place", 3, () -> x.thin(1));
        Check.report("21: of joined ones", Build.matches(x, 1), "0+2 2+2 4+1");
        Check.report("21: the other one stays as it is", Build.matches(x, 2), "0+2 1+2 2+2 3+2");
        Corpusline y = withResults("12345678", "12+", "23+4+", "!4", "56+7+8+", "67+");
        for (int i = 1; i < 5; i++) {
            y.join(0, i, Corpusline.EITHER);
        }
        Check.report("21: ahead", Build.matches(y, 0), "0+2 1+3 3+1 4+4 5+2");
        // 1+3 goes for 0+2, so that 3+1 stays though 1+3 has its token.
        Check.due("21: one that goes takes none with it", 3, () -> y.thin(0));
        Check.report("21: behind", Build.matches(y, 0), "0+2 3+1 4+4");
        Corpusline z = withResults("1", "2");
        Check.due("21: of none", 0, () -> z.thin(0));
        for (int none : NO_RESULTS) {
            Check.index("21: result " + none, () -> x.thin(none));
        }
    }

    /** The side 0: 12,34,5 and the side 1: 1,2;33,4. */
    private static Corpusline withPairs(int... pairs) {
        Corpusline x = new Corpusline();
        Build.words(x, 0, "12,34,5");
        Build.words(x, 1, "1,2;33,4");
        for (int i = 0; i < pairs.length; i += 2) {
            x.align(pairs[i], pairs[i + 1]);
        }
        return x;
    }

    private static void aligned(String what, String pattern, String some, String none, int... pairs) {
        for (int i = 0; i < 2; i++) {
            boolean isNone = i == 1;
            Corpusline x = withPairs(pairs);
            x.run(0, Build.pattern(x, "."), 0, 0, true);
            String due = isNone ? none : some;
            int size = due.isEmpty() ? 0 : due.split(" ").length;
            int number = Build.pattern(x, pattern);
            Check.due(what + ", none: " + isNone, size, () -> x.aligned(0, number, isNone));
            Check.report(what + ", none: " + isNone, Build.matches(x, 0), due);
        }
    }

    private static void aligned() {
        String all = "0+1 1+1 2+1 3+1 4+1";
        aligned("22: no pairs", ".", "", all);
        aligned("22: one pair", ".", "0+1 1+1", "2+1 3+1 4+1", 0, 0);
        aligned("22: the word is not there", "2", "", all, 0, 0);
        aligned("22: one of several has it", "2", "2+1 3+1", "0+1 1+1 4+1", 0, 0, 1, 0, 1, 1);
        aligned("22: the first of several has it", "2", "2+1 3+1", "0+1 1+1 4+1", 1, 1, 1, 0, 1, 3);
        aligned("22: all three", ".", all, "", 0, 0, 1, 2, 2, 3);
        aligned("22: a row of two", "33+", "4+1", "0+1 1+1 2+1 3+1", 2, 2, 0, 3);
        aligned("22: a row over the end of a sentence", "12+", "", all, 0, 0, 0, 1);
        aligned("22: a row over two sentences of a text", "34+", "", all, 0, 2, 0, 3);
        aligned("22: the row of none is not enough", "9{01", "", all, 0, 0);
        aligned("22: some other sentence has it", "4", "", all, 0, 0, 1, 1, 2, 2);
        aligned("22: of the last sentence", "4", "4+1", "0+1 1+1 2+1 3+1", 2, 3, 0, 1);
        aligned("22: labels are set for each row", ".Aa+", "2+1 3+1", "0+1 1+1 4+1", 1, 2, 0, 0);
    }

    private static void alignedByFirstToken() {
        Corpusline x = withPairs(0, 0, 1, 1);
        x.run(0, Build.pattern(x, "..+"), 0, 0, true);
        Check.report("22: rows over sentences", Build.matches(x, 0), "0+2 1+2 2+2 3+2");
        Check.due("22: by the first token", 2, () -> x.aligned(0, Build.pattern(x, "1"), false));
        Check.report("22: by the first token", Build.matches(x, 0), "0+2 1+2");
        Check.due("22: the rest by another", 0, () -> x.aligned(0, Build.pattern(x, "2"), false));
    }

    private static void alignedFromSideOne() {
        Corpusline x = withPairs(0, 2, 1, 0, 2, 0);
        int any = Build.pattern(x, ".");
        x.run(4, any, 1, 0, true);
        x.run(3, any, 1, 0, true);
        x.run(2, any, 1, 0, true);
        int five = Build.pattern(x, "5");
        int two = Build.pattern(x, "12+");
        Check.due("22: side 1, five", 1, () -> x.aligned(4, five, false));
        Check.report("22: side 1, five", Build.matches(x, 4), "0+1");
        Check.due("22: side 1, two", 2, () -> x.aligned(3, two, false));
        Check.report("22: side 1, two", Build.matches(x, 3), "2+1 3+1");
        Check.due("22: side 1, no five", 4, () -> x.aligned(2, five, true));
        Check.report("22: side 1, no five", Build.matches(x, 2), "1+1 2+1 3+1 4+1");
        Check.due("22: side 1, any of it left", 1, () -> x.aligned(4, any, false));
        x.align(1, 2);
        x.align(2, 2);
        x.run(4, any, 1, 0, true);
        Check.due("22: side 1, the first of several has it", 2, () -> x.aligned(4, two, false));
    }

    private static void alignedOnFullSides() {
        Corpusline x = new Corpusline();
        for (int i = 0; i < 40; i++) {
            x.token(0, i, 0, 0);
            x.end(0, false);
            x.token(1, i, 0, 0);
            x.end(1, false);
        }
        for (int i = 0; i < 40; i++) {
            x.align(i, 39 - i);
        }
        x.test(0, 7, false);
        x.test(0, 39, false);
        x.either();
        int seldom = x.keep();
        int any = Build.pattern(x, ".");
        x.run(0, any, 0, 0, true);
        x.run(1, any, 1, 0, true);
        Check.due("22: full sides", 2, () -> x.aligned(0, seldom, false));
        Check.report("22: full sides", Build.matches(x, 0), "0+1 32+1");
        Check.due("22: full sides, none", 38, () -> x.aligned(1, seldom, true));
        Check.due("22: full sides, a last match", 3901, () -> x.match(1, 37));
        groupsOf(x, 0, Corpusline.WORD, true, 1000, 1032);
    }

    private static void dropAndSize() {
        Corpusline x = withResults("1212", ".", "12+", "3");
        Check.due("24: four", 4, () -> x.size(0));
        Check.due("24: two", 2, () -> x.size(1));
        Check.due("24: none in it", 0, () -> x.size(2));
        for (int none : NO_RESULTS) {
            Check.due("24: result " + none, -1, () -> x.size(none));
            Check.index("23: result " + none, () -> x.drop(none));
        }
        Check.due("23: it had", 2, () -> x.drop(1));
        Check.due("23: it is gone", -1, () -> x.size(1));
        Check.index("23: gone already", () -> x.drop(1));
        Check.index("23: no match of it", () -> x.match(1, 0));
        Check.index("23: it is joined no more", () -> x.join(0, 1, 0));
        Check.due("23: of none", 0, () -> x.drop(2));
        Check.due("23: others stay", 4, () -> x.size(0));
        Check.due("23: it comes anew", 0, () -> x.run(1, 2, 0, 0, true));
        Check.due("23: nothing is left of it", 0, () -> x.size(1));
        for (int i = 0; i < 8; i++) {
            int result = i;
            Check.due("18: result " + i, 4, () -> x.run(result, 0, 0, 0, true));
            Check.due("24: result " + i, 4, () -> x.size(result));
        }
    }

    private static void match() {
        Corpusline x = withResults("12121", "!.", "12+");
        x.join(0, 1, Corpusline.EITHER);
        long[] due = {1, 2, 101, 201, 202, 301, 401};
        for (int i = 0; i < due.length; i++) {
            int number = i;
            Check.due("25: match " + i, due[i], () -> x.match(0, number));
        }
        int[] wrong = {-1, 7, 8, MIN, MAX};
        for (int w : wrong) {
            Check.index("25: match " + w, () -> x.match(0, w));
        }
        for (int none : NO_RESULTS) {
            Check.index("25: result " + none, () -> x.match(none, 0));
        }
        Check.due("25: of the other", 202, () -> x.match(1, 1));
        Check.index("25: it has two", () -> x.match(1, 2));
        x.join(1, 1, Corpusline.WITHOUT);
        Check.index("25: it has none", () -> x.match(1, 0));
        Corpusline y = new Corpusline();
        for (int i = 0; i < 40; i++) {
            y.token(0, i, 0, 0);
        }
        y.run(0, Build.pattern(y, ".{22{22{22"), 0, 0, true);
        Check.due("25: the last of eight tokens", 3208, () -> y.match(0, 32));
        y.run(0, Build.pattern(y, "."), 0, 0, true);
        Check.due("25: the last place", 3901, () -> y.match(0, 39));
    }

    private static Corpusline withAttributes() {
        Corpusline x = new Corpusline();
        int[][] tokens = {{7, 1, 40}, {99, 2, 40}, {7, 3, 41}, {0, 2, 49}, {99, 2, 0}, {7, 9, 49}};
        for (int[] t : tokens) {
            x.token(0, t[0], t[1], t[2]);
        }
        x.token(1, 3, 3, 3);
        x.run(0, Build.pattern(x, "."), 0, 0, true);
        x.run(1, Build.pattern(x, "..+"), 0, 0, true);
        x.run(2, Build.pattern(x, "5"), 0, 0, true);
        x.run(3, 0, 1, 0, true);
        return x;
    }

    private static void groupsOf(Corpusline x, int result, int attribute, boolean isLast, long... due) {
        String what = " of result " + result + ", " + attribute + ", last: " + isLast;
        Check.due("26: groups" + what, due.length, () -> x.groups(result, attribute, isLast));
        for (int i = 0; i < due.length; i++) {
            int group = i;
            Check.due("27: group " + i + what, due[i],
                    () -> x.groupAt(result, attribute, isLast, group));
        }
        int[] none = {-1, due.length, due.length + 1, 100, MIN, MAX};
        for (int group : none) {
            Check.index("27: group " + group + what,
                    () -> x.groupAt(result, attribute, isLast, group));
        }
    }

    private static void groups() {
        Corpusline x = withAttributes();
        for (boolean isLast : new boolean[] {false, true}) {
            groupsOf(x, 0, Corpusline.WORD, isLast, 3007, 2099, 1000);
            groupsOf(x, 0, Corpusline.KIND, isLast, 3002, 1001, 1003, 1009);
            groupsOf(x, 0, Corpusline.ROOT, isLast, 2040, 2049, 1000, 1041);
            groupsOf(x, 2, Corpusline.WORD, isLast);
            groupsOf(x, 3, Corpusline.ROOT, isLast, 1003);
        }
        groupsOf(x, 1, Corpusline.WORD, false, 2007, 2099, 1000);
        groupsOf(x, 1, Corpusline.WORD, true, 2007, 2099, 1000);
        groupsOf(x, 1, Corpusline.KIND, false, 3002, 1001, 1003);
        groupsOf(x, 1, Corpusline.KIND, true, 3002, 1003, 1009);
        groupsOf(x, 1, Corpusline.ROOT, false, 2040, 1000, 1041, 1049);
        groupsOf(x, 1, Corpusline.ROOT, true, 2049, 1000, 1040, 1041);
        // All matches of a first place count, each once.
        x.join(1, 0, Corpusline.EITHER);
        groupsOf(x, 1, Corpusline.KIND, false, 6002, 2001, 2003, 1009);
        groupsOf(x, 1, Corpusline.KIND, true, 6002, 2003, 2009, 1001);
    }

    /** Many lengths at each place: 40 places, up to 8 lengths, all in order. */
    private static void fullResult() {
        Corpusline x = new Corpusline();
        for (int i = 0; i < 40; i++) {
            x.token(1, 5, 0, i);
        }
        x.any();
        for (int length = 1; length <= 8; length++) {
            int number = x.keep();
            x.run(length == 1 ? 0 : 1, number, 1, 0, true);
            if (length > 1) {
                x.join(0, 1, Corpusline.EITHER);
            }
            for (int i = 0; i <= length && length < 8; i++) {
                x.any();
            }
            for (int i = 0; i < length && length < 8; i++) {
                x.chain();
            }
        }
        Check.due("24: all rows", 40 * 8 - 28, () -> x.size(0));
        Check.due("25: first", 1, () -> x.match(0, 0));
        Check.due("25: eighth", 8, () -> x.match(0, 7));
        Check.due("25: ninth", 101, () -> x.match(0, 8));
        Check.due("25: last", 3901, () -> x.match(0, 291));
        Check.index("25: no more", () -> x.match(0, 292));
        Check.due("27: all of a word", 292005, () -> x.groupAt(0, Corpusline.WORD, true, 0));
        Check.due("26: roots", 40, () -> x.groups(0, Corpusline.ROOT, true));
        Check.due("27: last root of the greater groups", 8039,
                () -> x.groupAt(0, Corpusline.ROOT, true, 32));
        Check.due("27: the least group", 1000, () -> x.groupAt(0, Corpusline.ROOT, true, 39));
        Check.due("21: five of eight", 5, () -> x.thin(0));
        Check.due("25: the last one", 3208, () -> x.match(0, 4));
    }

    public static void main(String[] args) {
        join();
        joinWithItself();
        thin();
        aligned();
        alignedByFirstToken();
        alignedFromSideOne();
        alignedOnFullSides();
        dropAndSize();
        match();
        groups();
        fullResult();
        Check.finish();
    }
}
