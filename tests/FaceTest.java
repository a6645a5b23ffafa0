import java.lang.reflect.Constructor;
import java.lang.reflect.Field;
import java.lang.reflect.Method;
import java.lang.reflect.Modifier;
import java.util.Arrays;
import java.util.HashSet;
import java.util.Set;
import java.util.TreeSet;
import java.util.stream.Collectors;

/** The public face: constants, the constructor, each method with its types, and nothing else. */
public final class FaceTest {
    private static final String INDEX = "IndexOutOfBoundsException";
    private static final String ARGUMENT = "IllegalArgumentException";
    private static final String STATE = "IllegalStateException";

    private static final Set<String> METHODS = Set.of(
            "int token(int,int,int,int) " + INDEX + " " + ARGUMENT + " " + STATE,
            "int end(int,boolean) " + INDEX + " " + STATE,
            "int align(int,int) " + INDEX,
            "int tokens(int) " + INDEX,
            "int sentenceOf(int,int) " + INDEX,
            "int occurs(int,int,int) " + INDEX + " " + ARGUMENT,
            "int test(int,int,boolean) " + ARGUMENT + " " + STATE,
            "int any() " + STATE,
            "int same(int,int) " + ARGUMENT + " " + STATE,
            "void label(int) " + ARGUMENT + " " + STATE,
            "int both() " + STATE,
            "int chain() " + STATE,
            "int either() " + STATE,
            "int repeat(int,int) " + ARGUMENT + " " + STATE,
            "int keep() " + STATE,
            "int wipe()",
            "int run(int,int,int,int,boolean) " + INDEX + " " + ARGUMENT,
            "int walk(int,int,int,boolean) " + INDEX + " " + ARGUMENT,
            "int join(int,int,int) " + INDEX + " " + ARGUMENT + " " + STATE,
            "int thin(int) " + INDEX,
            "int aligned(int,int,boolean) " + INDEX,
            "int drop(int) " + INDEX,
            "int size(int)",
            "int match(int,int) " + INDEX,
            "int groups(int,int,boolean) " + INDEX + " " + ARGUMENT,
            "int groupAt(int,int,boolean,int) " + INDEX + " " + ARGUMENT);

    private static String namesOf(Class<?>[] types, String between) {
        return Arrays.stream(types).map(Class::getSimpleName).collect(Collectors.joining(between));
    }

    private static void constants() {
        int[][] constants = {
            {-1, Corpusline.NONE},
            {0, Corpusline.WORD}, {1, Corpusline.KIND}, {2, Corpusline.ROOT},
            {0, Corpusline.NOWHERE}, {1, Corpusline.SENTENCE}, {2, Corpusline.TEXT},
            {0, Corpusline.EITHER}, {1, Corpusline.BOTH}, {2, Corpusline.WITHOUT},
        };
        for (int i = 0; i < constants.length; i++) {
            int got = constants[i][1];
            Check.due("constant " + i, constants[i][0], () -> got);
        }
        Set<String> names = new TreeSet<>();
        for (Field field : Corpusline.class.getDeclaredFields()) {
            if (!Modifier.isPrivate(field.getModifiers())) {
                names.add(Modifier.toString(field.getModifiers()) + " " + field.getName());
            }
        }
        Set<String> due = new TreeSet<>();
        for (String name : "NONE WORD KIND ROOT NOWHERE SENTENCE TEXT EITHER BOTH WITHOUT".split(" ")) {
            due.add("public static final " + name);
        }
        Check.report("the fields", names.toString(), due.toString());
    }

    private static void methods() {
        Set<String> seen = new HashSet<>();
        Set<String> publicNames = new HashSet<>();
        Set<String> privateNames = new HashSet<>();
        for (Method method : Corpusline.class.getDeclaredMethods()) {
            if (Modifier.isPrivate(method.getModifiers())) {
                privateNames.add(method.getName());
                continue;
            }
            publicNames.add(method.getName());
            String text = method.getReturnType().getSimpleName() + " " + method.getName() + "("
                    + namesOf(method.getParameterTypes(), ",") + ") "
                    + namesOf(method.getExceptionTypes(), " ");
            seen.add(text.trim());
            Check.report(text + " is public", Modifier.toString(method.getModifiers()), "public");
        }
        Check.report("the methods", new TreeSet<>(seen).toString(), new TreeSet<>(METHODS).toString());
        privateNames.retainAll(publicNames);
        Check.report("private methods with a public one's name", privateNames.toString(), "[]");
    }

    private static void shape() {
        Check.report("the class", Modifier.toString(Corpusline.class.getModifiers()), "public final");
        Constructor<?>[] constructors = Corpusline.class.getDeclaredConstructors();
        Check.due("constructors", 1, () -> constructors.length);
        Check.report("the constructor", Modifier.toString(constructors[0].getModifiers())
                + constructors[0].getParameterCount(), "public0");
    }

    public static void main(String[] args) {
        shape();
        constants();
        methods();
        Check.finish();
    }
}
