/** Promises 18 and 19: runs within bounds, longest and shortest, and walks. */
public final class RunsTest {
    private static void run() {
        Corpusline x = new Corpusline();
        Build.words(x, 0, "1212");
        Build.words(x, 1, "21");
        int up = Build.pattern(x, "12+");
        int any = Build.pattern(x, ".");
        Check.due("18: two", 2, () -> x.run(0, up, 0, 0, true));
        Check.report("18: matches", Build.matches(x, 0), "0+2 2+2");
        Check.due("18: none on the other side", 0, () -> x.run(1, up, 1, 0, true));
        Check.due("18: a result of none is one", 0, () -> x.size(1));
        Check.due("18: other side", 2, () -> x.run(7, any, 1, 0, false));
        Check.report("18: each is of its own", Build.matches(x, 0), "0+2 2+2");
        Check.due("18: in place of what it was", 0, () -> x.run(0, up, 1, 0, true));
        Check.due("18: nothing is left of it", 0, () -> x.size(0));
        Check.due("18: of the other side now", 2, () -> x.join(0, 7, 0));
        x.token(1, 2, 0, 0);
        Check.due("18: a result stays when a token comes", 2, () -> x.size(7));
        Check.due("18: run again", 1, () -> x.run(1, up, 1, 0, true));
        Check.due("18: empty side", 0, () -> {
            Corpusline y = new Corpusline();
            return y.run(0, Build.pattern(y, "."), 0, 0, true);
        });
    }

    private static void bounds() {
        String words = "111,11;1,,1;11";
        String[][] cases = {
            {".{13", "0+3 1+3 2+3 3+3 4+3 5+3 6+3 7+2 8+1", "0+3 1+2 2+1 3+2 4+1 5+1 6+1 7+2 8+1",
                "0+3 1+3 2+3 3+2 4+1 5+2 6+1 7+2 8+1"},
            {".{22", "0+2 1+2 2+2 3+2 4+2 5+2 6+2 7+2", "0+2 1+2 3+2 7+2",
                "0+2 1+2 2+2 3+2 5+2 7+2"},
            {".{33", "0+3 1+3 2+3 3+3 4+3 5+3 6+3", "0+3", "0+3 1+3 2+3"},
        };
        for (String[] c : cases) {
            for (int bound = 0; bound < 3; bound++) {
                Corpusline x = new Corpusline();
                Build.words(x, 0, words);
                Check.report("18: " + c[0] + " within " + bound,
                        Build.found(x, c[0], bound, true), c[bound + 1]);
            }
        }
    }

    private static void boundsOfSides() {
        Corpusline x = new Corpusline();
        Build.words(x, 0, "11;11");
        Build.words(x, 1, "1,1,11");
        int pair = Build.pattern(x, "..+");
        Check.due("18: side 0, text", 2, () -> x.run(0, pair, 0, Corpusline.TEXT, true));
        Check.due("18: side 1, text", 3, () -> x.run(0, pair, 1, Corpusline.TEXT, true));
        Check.due("18: side 1, sentence", 1, () -> x.run(0, pair, 1, Corpusline.SENTENCE, true));
        Check.report("18: where", Build.matches(x, 0), "2+2");
    }

    /** A longer row outside the bound does not take the place of a shorter one inside it. */
    private static void boundKeepsShorter() {
        Corpusline x = new Corpusline();
        Build.words(x, 0, "1,23");
        Check.report("18: longest inside", Build.found(x, "12{01+", 1, true), "0+1");
        Corpusline y = new Corpusline();
        Build.words(y, 0, "12,3");
        Check.report("18: the only row is outside", Build.found(y, "12+3+", 1, true), "");
        Corpusline z = new Corpusline();
        Build.words(z, 0, "12,3");
        Check.report("18: labels do not cross either", Build.found(z, ".A{13.b+|", 1, true),
                "0+2 1+1 2+1");
    }

    private static void walk() {
        Corpusline x = new Corpusline();
        for (int i = 0; i < 40; i++) {
            x.token(0, 1, 0, 0);
        }
        int any = Build.pattern(x, ".");
        int eight = Build.pattern(x, ".{22{22{22");
        int three = Build.pattern(x, ".{13");
        Check.due("19: 40 of one", 4040, () -> x.walk(any, 0, 0, true));
        Check.due("19: 33 of eight, 264 tokens", 3364, () -> x.walk(eight, 0, 0, true));
        Check.due("19: 117 tokens", 4017, () -> x.walk(three, 0, 0, true));
        Check.due("19: shortest", 4040, () -> x.walk(three, 0, 0, false));
        Check.due("19: empty side", 0, () -> x.walk(three, 1, 0, true));
        Check.due("19: no result is made", -1, () -> x.size(0));
        x.run(2, any, 0, 0, true);
        x.end(0, true);
        Build.words(x, 1, "12,3;4");
        Check.due("19: within sentences", 405, () -> x.walk(three, 1, 1, true));
        Check.due("19: within texts", 407, () -> x.walk(three, 1, 2, true));
        Check.due("19: anywhere", 409, () -> x.walk(three, 1, 0, true));
    }

    /** The dearest calls: as many ways through a pattern as there can be, at every place. */
    private static void dearCalls() {
        Corpusline x = new Corpusline();
        for (int i = 0; i < 40; i++) {
            x.token(0, i % 2, i / 39, 0);
        }
        for (int i = 0; i < 6; i++) {
            x.any();
            x.label(i % 3);
            x.repeat(0, 1);
        }
        x.same(0, 0);
        x.same(0, 1);
        x.both();
        x.same(1, 2);
        x.both();
        for (int i = 0; i < 6; i++) {
            x.chain();
        }
        x.any();
        x.chain();
        x.keep();
        // The shortest row sets four labels, so that the words are alike, and has two tokens more.
        for (int i = 0; i < 400; i++) {
            Check.due("18: the dearest", 35, () -> x.run(0, 0, 0, 0, true));
        }
        Check.due("25: the longest sets five labels", 7, () -> x.match(0, 0));
    }

    public static void main(String[] args) {
        run();
        bounds();
        boundsOfSides();
        boundKeepsShorter();
        walk();
        dearCalls();
        Check.finish();
    }
}
