import java.io.IOException;
import java.lang.reflect.Field;
import java.lang.reflect.InvocationTargetException;
import java.lang.reflect.Method;
import java.lang.reflect.Modifier;
import java.nio.file.Files;
import java.nio.file.Path;
import java.util.HashMap;
import java.util.List;
import java.util.Map;
import java.util.Set;
import java.util.TreeSet;
import java.util.regex.Matcher;
import java.util.regex.Pattern;

/** The calls that README.md shows: each answers what stands behind it there. */
public final class ReadmeTest {
    private static final Pattern NEW = Pattern.compile("Corpusline x = new Corpusline\\(\\);");
    private static final Pattern CALL =
            Pattern.compile("(?:int (\\w+) = )?x\\.(\\w+)\\((.*?)\\); +// ([-\\w]+|\\.\\.\\.).*");

    private static final Map<String, Object> NAMES = new HashMap<>();
    private static final Set<String> CALLED = new TreeSet<>();
    private static Corpusline x = null;

    private static void nameConstants() throws IllegalAccessException {
        for (Field field : Corpusline.class.getFields()) {
            NAMES.put("Corpusline." + field.getName(), field.get(null));
        }
        NAMES.put("true", true);
        NAMES.put("false", false);
    }

    private static Object valueOf(String argument) {
        Object named = NAMES.get(argument);
        return named != null ? named : (Object) Integer.valueOf(argument);
    }

    private static Object[] valuesOf(String arguments) {
        String[] texts = arguments.isEmpty() ? new String[0] : arguments.split(", ");
        Object[] values = new Object[texts.length];
        for (int i = 0; i < texts.length; i++) {
            values[i] = valueOf(texts[i]);
        }
        return values;
    }

    private static Method methodOf(String name) {
        for (Method method : Corpusline.class.getMethods()) {
            if (method.getName().equals(name)) {
                return method;
            }
        }
        throw new AssertionError("no such method: " + name);
    }

    /** Returns the answer, or the exception's name; of a void call the sign that stands for it. */
    private static String answer(String name, String arguments) throws IllegalAccessException {
        try {
            Object answer = methodOf(name).invoke(x, valuesOf(arguments));
            return answer == null ? "..." : answer.toString();
        } catch (InvocationTargetException e) {
            return e.getCause().getClass().getSimpleName();
        }
    }

    private static void line(String line) throws IllegalAccessException {
        Matcher call = CALL.matcher(line);
        if (NEW.matcher(line).matches()) {
            x = new Corpusline();
            return;
        }
        Check.report("'" + line + "' is a call", call.matches() ? "yes" : "no", "yes");
        if (call.matches()) {
            String got = answer(call.group(2), call.group(3));
            Check.report(line, got, call.group(4));
            CALLED.add(call.group(2));
            if (call.group(1) != null) {
                NAMES.put(call.group(1), Integer.valueOf(got));
            }
        }
    }

    public static void main(String[] args) throws IOException, IllegalAccessException {
        nameConstants();
        List<String> lines = Files.readAllLines(Path.of("README.md"));
        boolean isCode = false;
        for (String line : lines) {
            if (line.startsWith("```")) {
                isCode = line.equals("```java");
            } else if (isCode && !line.isEmpty()) {
                line(line);
            }
        }
        Check.report("the methods that are shown", CALLED.toString(), methods().toString());
        Check.finish();
    }

    private static Set<String> methods() {
        Set<String> methods = new TreeSet<>();
        for (Method method : Corpusline.class.getDeclaredMethods()) {
            if (Modifier.isPublic(method.getModifiers())) {
                methods.add(method.getName());
            }
        }
        return methods;
    }
}
