import java.util.HashSet;
import java.util.List;
import java.util.Set;
import java.util.TreeMap;
import java.util.regex.Matcher;
import java.util.regex.Pattern;

/**
 * Tests of boundary cases: each has a name of its own, "promise N, method: case", and objects of
 * its own, which a start makes anew.
 */
public abstract class Cases {
    public static final String INDEX = "IndexOutOfBoundsException";
    public static final String ARGUMENT = "IllegalArgumentException";
    public static final String STATE = "IllegalStateException";
    public static final int MIN = Integer.MIN_VALUE, MAX = Integer.MAX_VALUE;

    /** Makes an object and brings it to a state, the same one each time. */
    public interface Start {
        Corpusline make();
    }

    /** A call, or a few of which the last one is asked; void ones answer 0. */
    public interface Call {
        long on(Corpusline x);
    }

    /** Tells what was found in an object as a text. */
    public interface Look {
        String at(Corpusline x);
    }

    private static final Pattern NAME = Pattern.compile("promise (\\d+), [a-zA-Z]+: .+");
    private static final Set<String> NAMES = new HashSet<>();
    private static final TreeMap<Integer, Integer> COUNTS = new TreeMap<>();

    /** A test that the call answers what is due. */
    public static void due(String name, long want, Start start, Call call) {
        begin(name);
        Corpusline x = start.make();
        Check.due(name, want, () -> call.on(x));
    }

    /** A test that an object looks as is due. */
    public static void seen(String name, String want, Start start, Look look) {
        begin(name);
        Check.report(name, look.at(start.make()), want);
    }

    /** A test that the call throws just this exception, and changes nothing. */
    public static void refused(String name, String exception, Start start, Call call) {
        begin(name);
        Corpusline x = start.make();
        Check.report(name, Check.nameOf(() -> call.on(x)), exception);
        demandNoChange(name, start, call);
    }

    /** A test that the call answers what is due, and changes nothing. */
    public static void unchanged(String name, long want, Start start, Call call) {
        due(name, want, start, call);
        demandNoChange(name, start, call);
    }

    private static void demandNoChange(String name, Start start, Call call) {
        List<Probe.Script> scripts = Probe.SCRIPTS;
        for (int i = 0; i < scripts.size(); i++) {
            Corpusline called = start.make();
            Check.nameOf(() -> call.on(called));
            String behind = Probe.seen(called, scripts.get(i));
            String without = Probe.seen(start.make(), scripts.get(i));
            Check.report(name + " (changes nothing, probe " + i + ")", behind, without);
        }
    }

    private static void begin(String name) {
        Matcher matcher = NAME.matcher(name);
        boolean isFine = matcher.matches() && NAMES.add(name);
        Check.report("the name '" + name + "'", isFine ? "fine" : "malformed or twice", "fine");
        if (isFine) {
            COUNTS.merge(Integer.parseInt(matcher.group(1)), 1, Integer::sum);
        }
    }

    /** Ends a test of these promises: each of them must have had a case, and no other one. */
    public static void finish(int firstPromise, int lastPromise) {
        for (int promise = firstPromise; promise <= lastPromise; promise++) {
            Check.report("promise " + promise + " has cases",
                    COUNTS.containsKey(promise) ? "yes" : "no", "yes");
        }
        boolean isWithin = COUNTS.firstKey() >= firstPromise && COUNTS.lastKey() <= lastPromise;
        Check.report("the promises " + COUNTS.keySet(), isWithin ? "within" : "others", "within");
        System.out.println("cases of each promise: " + COUNTS);
        Check.finish();
    }

    static long labelled(Corpusline x, int label) {
        x.label(label);
        return 0;
    }
}
