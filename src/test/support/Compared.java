import java.lang.reflect.Method;
import java.lang.reflect.Modifier;
import java.util.Arrays;
import java.util.HashMap;
import java.util.Map;

/** A new object and what the document says of it: both are asked each call. */
final class Compared {
    static final int MOST_CALLS = 512;
    private static final Map<String, Method> FACE = face();

    private final String name;
    private final ArmatureWinding x = new ArmatureWinding();
    private final Model model = new Model();
    private int calls = 0;

    Compared(String name) {
        this.name = name;
    }

    /** Booleans are given as 1 and 0. */
    long ask(String call, int... arguments) {
        String before = model.toString();
        calls++;
        long got = answer(call, arguments);
        long want = model.call(call, arguments);
        if (got == want) {
            Due.due(call, got, want);
        } else {
            Due.due(name + ", call " + calls + ", " + before + call + Arrays.toString(arguments), got, want);
        }
        return got;
    }

    int calls() {
        return calls;
    }

    Model model() {
        return model;
    }

    private static Map<String, Method> face() {
        Map<String, Method> face = new HashMap<>();
        for (Method m : ArmatureWinding.class.getDeclaredMethods()) {
            if (Modifier.isPublic(m.getModifiers())) {
                face.put(m.getName(), m);
            }
        }
        return face;
    }

    private long answer(String call, int[] arguments) {
        Method method = FACE.get(call);
        if (method == null) {
            throw new IllegalStateException("no public method " + call);
        }
        Class<?>[] types = method.getParameterTypes();
        Object[] given = new Object[arguments.length];
        for (int i = 0; i < given.length; i++) {
            given[i] = types[i] == boolean.class ? (Object) (arguments[i] == 1) : (Object) arguments[i];
        }
        try {
            return ((Number) method.invoke(x, given)).longValue();
        } catch (ReflectiveOperationException e) {
            throw new IllegalStateException(name + ": " + call + Arrays.toString(arguments), e);
        }
    }
}
