import java.lang.reflect.Method;
import java.lang.reflect.Modifier;
import java.util.Arrays;
import java.util.HashMap;
import java.util.Map;

/** Calls by their names, on the class or on the second writing of the document: one face for both. */
final class Calls {
    static final String[] NAMES = {
        "row", "square", "tower", "see", "hidden", "sight", "report", "remark", "clear", "log",
        "squares", "join", "begin", "apart", "office", "out", "fire", "patch", "fewest", "next",
        "crew", "move", "place", "minutes", "way", "send", "sent", "blinds", "blind", "best",
        "claim", "check", "undo", "count"
    };

    private static final Map<String, Method> FAST = methodsOf(SmokeWatch.class);
    private static final Map<String, Method> SLOW = methodsOf(SlowWatch.class);

    private final Object watch;
    private final Map<String, Method> methods;

    Calls(SmokeWatch watch) {
        this.watch = watch;
        this.methods = FAST;
    }

    Calls(SlowWatch watch) {
        this.watch = watch;
        this.methods = SLOW;
    }

    private static Map<String, Method> methodsOf(Class<?> face) {
        Map<String, Method> methods = new HashMap<>();
        for (Method method : face.getDeclaredMethods()) {
            if (!Modifier.isPrivate(method.getModifiers())) {
                methods.put(method.getName(), method);
            }
        }
        return methods;
    }

    static int parametersOf(String name) {
        return FAST.get(name).getParameterCount();
    }

    /** A boolean counts 1 or 0. */
    int ask(String name, int... arguments) {
        Object[] boxed = Arrays.stream(arguments).boxed().toArray();
        try {
            Object answer = methods.get(name).invoke(watch, boxed);
            return answer instanceof Boolean did ? Woods.num(did) : (Integer) answer;
        } catch (ReflectiveOperationException e) {
            throw new IllegalStateException(name + " " + Arrays.toString(arguments), e);
        }
    }
}
