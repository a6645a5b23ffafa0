import java.lang.reflect.InvocationTargetException;
import java.lang.reflect.Method;
import java.util.ArrayList;
import java.util.HashMap;
import java.util.List;
import java.util.Map;

/** Runs of 512 calls, drawn by a written-out rule, each answer held against the oracle's. */
public final class RandomRunsTest {
    private static final int RUNS = 3000, CALLS = 512;
    private static final int FEW_VALUES = -1, FEW_WORDS = -2, FEW_KINDS = -3, FEW_ROOTS = -4;
    private static final int A_PATTERN = -5, A_RESULT = -6, A_MATCH = -7;

    /** A call: its name, how often it is drawn in each kind of run, and below what arguments are. */
    private record Kind(String name, int[] weights, int... ranges) {
    }

    private static int[] often(int... weights) {
        return weights;
    }

    private static final Kind[] KINDS = {
        new Kind("token", often(14, 24, 8), 2, FEW_WORDS, FEW_KINDS, FEW_ROOTS),
        new Kind("end", often(4, 9, 2), 2),
        new Kind("align", often(3, 9, 1), 8, 8),
        new Kind("tokens", often(1, 1, 1), 2),
        new Kind("sentenceOf", often(1, 2, 1), 2, 40),
        new Kind("occurs", often(1, 1, 1), 2, 3, FEW_VALUES),
        new Kind("test", often(8, 5, 14), 3, FEW_WORDS),
        new Kind("any", often(4, 3, 9)),
        new Kind("same", often(5, 3, 14), 3, 3),
        new Kind("label", often(6, 3, 18), 3),
        new Kind("both", often(4, 2, 4)),
        new Kind("chain", often(8, 5, 16)),
        new Kind("either", often(5, 3, 8)),
        new Kind("repeat", often(8, 4, 12), 4, 4),
        new Kind("keep", often(8, 6, 14)),
        new Kind("wipe", often(1, 1, 1)),
        new Kind("run", often(10, 12, 14), 8, A_PATTERN, 2, 3),
        new Kind("walk", often(4, 2, 14), A_PATTERN, 2, 3),
        new Kind("join", often(6, 4, 5), A_RESULT, A_RESULT, 3),
        new Kind("thin", often(3, 1, 2), A_RESULT),
        new Kind("aligned", often(5, 12, 2), A_RESULT, A_PATTERN),
        new Kind("drop", often(1, 1, 1), 8),
        new Kind("size", often(1, 1, 1), 8),
        new Kind("match", often(6, 4, 8), A_RESULT, A_MATCH),
        new Kind("groups", often(2, 1, 2), A_RESULT, 3),
        new Kind("groupAt", often(4, 2, 4), A_RESULT, 3, 3),
    };

    private static final Map<String, Method> OWN = methodsOf(Corpusline.class);
    private static final Map<String, Method> DUE = methodsOf(Oracle.class);

    private final Corpusline own = new Corpusline();
    private final Oracle due = new Oracle();
    private final int run;
    private long seed;
    private int calls = 0;
    private int thrown = 0;
    private int patterns = 0;
    /** The results that were made last, some of which may have been dropped. */
    private final List<Integer> made = new ArrayList<>();

    private RandomRunsTest(int run) {
        this.run = run;
        seed = run * 7919L + 17;
    }

    private static Map<String, Method> methodsOf(Class<?> type) {
        Map<String, Method> methods = new HashMap<>();
        for (Method method : type.getDeclaredMethods()) {
            methods.put(method.getName(), method);
        }
        return methods;
    }

    private int draw(int count) {
        seed = seed * 6364136223846793005L + 1442695040888963407L;
        return (int) ((seed >>> 33) % count);
    }

    /** Draws a number below a range, or now and then one at its edges or far outside. */
    private int number(int range) {
        int few = 1 + run / 3 % 4;
        int all = switch (range) {
            case A_PATTERN -> patterns + 1;
            case A_RESULT -> 8;
            case A_MATCH -> 25;
            case FEW_WORDS -> 100;
            case FEW_KINDS -> 10;
            case FEW_ROOTS -> 50;
            case FEW_VALUES -> few;
            default -> range;
        };
        if (draw(run % 5 == 0 ? 15 : 80) == 0) {
            int[] wild = {-1, all, all - 1, all + 1, -100, 63, 64, 127, 128,
                Integer.MIN_VALUE, Integer.MAX_VALUE};
            return wild[draw(wild.length)];
        }
        if (range == A_PATTERN) {
            return draw(Math.max(1, patterns));
        }
        if (range == A_RESULT) {
            return made.isEmpty() ? draw(8) : made.get(draw(made.size()));
        }
        return draw(range < 0 && range >= FEW_ROOTS && draw(12) != 0 ? few : all);
    }

    private Object[] argumentsOf(Kind kind) {
        List<Object> arguments = new ArrayList<>();
        int next = 0;
        for (Class<?> type : OWN.get(kind.name).getParameterTypes()) {
            arguments.add(type == boolean.class ? (Object) (draw(2) == 0)
                    : (Object) number(kind.ranges[next++]));
        }
        return arguments.toArray();
    }

    private static String answer(Object object, Method method, Object... arguments) {
        try {
            Object answer = method.invoke(object, arguments);
            return answer == null ? "0" : answer.toString();
        } catch (InvocationTargetException e) {
            Throwable cause = e.getCause();
            return cause.getClass().getSimpleName();
        } catch (IllegalAccessException e) {
            throw new AssertionError(e);
        }
    }

    private String call(String name, Object... arguments) {
        calls++;
        String want = answer(due, DUE.get(name), arguments);
        String got = answer(own, OWN.get(name), arguments);
        StringBuilder what = new StringBuilder("run " + run + ", call " + calls + ": " + name);
        for (Object argument : arguments) {
            what.append(' ').append(argument);
        }
        Check.report(what.toString(), got, want);
        if (want.endsWith("Exception")) {
            thrown++;
        } else if (name.equals("keep")) {
            patterns++;
        } else if (name.equals("run")) {
            made.add((Integer) arguments[0]);
        } else if (name.equals("drop")) {
            made.remove(arguments[0]);
        }
        return want;
    }

    private Kind drawKind() {
        int total = 0;
        for (Kind kind : KINDS) {
            total += kind.weights[run % 3];
        }
        int left = draw(total);
        for (Kind kind : KINDS) {
            left -= kind.weights[run % 3];
            if (left < 0) {
                return kind;
            }
        }
        throw new AssertionError();
    }

    private void drawCall() {
        Kind kind = drawKind();
        // A pile is mostly joined to one part before it is kept, so that patterns grow.
        for (int i = 0; kind.name.equals("keep") && draw(6) != 0 && i < 8; i++) {
            if (!call(draw(5) == 0 ? "either" : "chain").equals("2")) {
                break;
            }
        }
        call(kind.name, argumentsOf(kind));
    }

    /** Asks for all that the object holds. */
    private void callAll() {
        for (int side = 0; side < 2; side++) {
            int count = Integer.parseInt(call("tokens", side));
            if (count > 0) {
                call("sentenceOf", side, count - 1);
            }
        }
        call("wipe");
        for (int result = 0; result < 8 && calls < CALLS; result++) {
            int size = Integer.parseInt(call("size", result));
            for (int match = 0; match <= size && calls < CALLS; match++) {
                call("match", result, match);
            }
            for (int group = 0; size >= 0 && group < 6 && calls < CALLS; group++) {
                call("groupAt", result, group % 3, group % 2 == 0, group / 2);
            }
        }
    }

    public static void main(String[] args) {
        int thrown = 0;
        int calls = 0;
        for (int run = 0; run < RUNS; run++) {
            RandomRunsTest test = new RandomRunsTest(run);
            while (test.calls < CALLS - 150) {
                test.drawCall();
            }
            test.callAll();
            thrown += test.thrown;
            calls += test.calls;
        }
        System.out.println(calls + " calls, of which " + thrown + " throw");
        Check.finish();
    }
}
