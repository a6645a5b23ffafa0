import java.util.List;

/**
 * Learns all that can be learnt of an object's state. Most of it can be seen only by calls that
 * change it, so there are several scripts, each for an object of its own.
 */
public final class Probe {
    /** With those that a start takes, an object is not called more than 512 times. */
    private static final int MOST_CALLS = 330;
    private static final int MOST_MATCHES = 100;

    /** A run of calls, of which each answer is noted. */
    public interface Script {
        void run(Probe p);
    }

    private final Corpusline x;
    private final StringBuilder notes = new StringBuilder();
    private int calls = 0;

    private Probe(Corpusline x) {
        this.x = x;
    }

    static final List<Script> SCRIPTS = List.of(
            p -> p.side(0),
            p -> p.side(1),
            Probe::ends,
            Probe::pairs,
            Probe::roomOnPile,
            Probe::wipe,
            p -> p.ask(p.x::keep),
            p -> p.ask(p.x::both),
            p -> p.ask(() -> p.x.repeat(1, 1)),
            p -> p.ask(() -> p.x.repeat(0, 2)),
            p -> p.pileAsPattern(false, 0),
            p -> p.pileAsPattern(true, 0),
            p -> p.pileAsPattern(false, 1),
            p -> p.pileAsPattern(false, 2),
            p -> p.patterns(0),
            p -> p.patterns(6),
            Probe::matches,
            Probe::groups,
            Probe::resultSides);

    public static String seen(Corpusline x, Script script) {
        Probe p = new Probe(x);
        script.run(p);
        if (p.calls > MOST_CALLS) {
            throw new AssertionError(p.calls + " calls are too many");
        }
        return p.notes.toString();
    }

    /** Notes an answer; returns it, or -1 if the call throws. */
    private int ask(Check.Call call) {
        calls++;
        String answer = Check.nameOf(call);
        notes.append(answer).append(' ');
        return answer.endsWith("Exception") ? -1 : Integer.parseInt(answer);
    }

    private int label(int label) {
        return ask(() -> {
            x.label(label);
            return 0;
        });
    }

    private void side(int side) {
        int count = ask(() -> x.tokens(side));
        for (int i = 0; i <= count; i++) {
            int place = i;
            ask(() -> x.sentenceOf(side, place));
        }
        for (int i = 0; i < 100; i++) {
            int value = i;
            ask(() -> x.occurs(side, Corpusline.WORD, value));
            if (value < 50) {
                ask(() -> x.occurs(side, Corpusline.ROOT, value));
            }
            if (value < 10) {
                ask(() -> x.occurs(side, Corpusline.KIND, value));
            }
        }
    }

    /** Whether the sides are ended behind their last tokens, and where texts are. */
    private void ends() {
        for (int i = 0; i < 2; i++) {
            int side = i;
            int place = ask(() -> x.token(side, 1, 1, 1));
            ask(() -> x.sentenceOf(side, place));
        }
        ask(x::wipe);
        ask(x::any);
        ask(x::any);
        ask(x::chain);
        int kept = ask(x::keep);
        int pattern = kept < 0 ? 0 : kept;
        for (int i = 0; i < 2; i++) {
            int side = i;
            ask(() -> x.run(side, pattern, side, Corpusline.TEXT, true));
            int count = ask(() -> x.size(side));
            for (int k = 0; k < count; k++) {
                int match = k;
                ask(() -> x.match(side, match));
            }
        }
    }

    private void pairs() {
        for (int i = 0; i < 12; i++) {
            for (int k = 0; k < 12; k++) {
                int first = i;
                int second = k;
                ask(() -> x.align(first, second));
            }
        }
    }

    private void roomOnPile() {
        while (ask(x::any) >= 0) {
            notes.append('+');
        }
        for (int i = 0; i < 8; i++) {
            ask(x::chain);
        }
    }

    private void wipe() {
        label(0);
        ask(x::wipe);
        ask(x::wipe);
    }

    /** Keeps what is on the pile, as one part, and looks at what it matches. */
    private void pileAsPattern(boolean isEither, int label) {
        ask(() -> x.same(Corpusline.WORD, label));
        for (int i = 0; i < 8; i++) {
            ask(isEither ? x::either : x::chain);
        }
        int pattern = ask(x::keep);
        for (int i = 0; i < 4; i++) {
            int side = i % 2;
            boolean isLongest = i > 1;
            ask(() -> x.run(side, pattern, side, Corpusline.NOWHERE, isLongest));
            int count = ask(() -> x.size(side));
            for (int k = 0; k < count; k++) {
                int match = k;
                ask(() -> x.match(side, match));
            }
        }
    }

    private void patterns(int from) {
        for (int i = from; i < from + 7; i++) {
            for (int k = 0; k < 12; k++) {
                int pattern = i;
                int how = k;
                ask(() -> x.walk(pattern, how % 2, how / 4, how % 4 < 2));
            }
        }
        ask(x::wipe);
        ask(x::any);
        ask(x::keep);
    }

    private void matches() {
        for (int i = -1; i <= 8; i++) {
            int result = i;
            int count = ask(() -> x.size(result));
            for (int k = 0; k < count && k < MOST_MATCHES; k++) {
                int match = k;
                ask(() -> x.match(result, match));
            }
        }
    }

    private void groups() {
        for (int i = 0; i < 8; i++) {
            for (int k = 0; k < 6; k++) {
                int result = i;
                int attribute = k % 3;
                boolean isLast = k > 2;
                int count = ask(() -> x.groups(result, attribute, isLast));
                for (int g = 0; g < Math.min(count, 4); g++) {
                    int group = g;
                    ask(() -> x.groupAt(result, attribute, isLast, group));
                }
            }
        }
    }

    /** Joins each result with the one of the number 0, and this one with new ones of each side. */
    private void resultSides() {
        for (int i = 7; i >= 0; i--) {
            int result = i;
            ask(() -> x.join(result, 0, Corpusline.EITHER));
        }
        for (int i = 0; i < 2; i++) {
            int side = i;
            ask(() -> x.run(7, 0, side, Corpusline.NOWHERE, true));
            ask(() -> x.join(0, 7, Corpusline.EITHER));
        }
    }
}
