import java.lang.reflect.InvocationTargetException;
import java.lang.reflect.Method;
import java.lang.reflect.Modifier;
import java.util.Arrays;
import java.util.HashMap;
import java.util.Map;

/** An object of the program and one of the Model that meet the same calls, up to the last one that the document tells of. */
final class Pair {
    /** The document leaves free what calls behind this one answer. */
    static final int MOST_CALLS = 512;

    private static final Map<String, Method> OF_PROGRAM = new HashMap<>();
    private static final Map<String, Method> OF_MODEL = new HashMap<>();

    static {
        for (Method m : GraphPhotographer.class.getDeclaredMethods()) {
            if (Modifier.isPublic(m.getModifiers())) OF_PROGRAM.put(m.getName(), m);
        }
        for (Method due : OF_PROGRAM.values()) OF_MODEL.put(due.getName(), twinOf(due));
    }

    final Model model = new Model();
    private final GraphPhotographer program = new GraphPhotographer();
    private final Checks checks;
    private final Tally tally;
    private final String title;
    private int calls;

    Pair(Checks checks, Tally tally, String title) {
        this.checks = checks;
        this.tally = tally;
        this.title = title;
    }

    private static Method twinOf(Method m) {
        try {
            return Model.class.getDeclaredMethod(m.getName(), m.getParameterTypes());
        } catch (NoSuchMethodException e) {
            throw new IllegalStateException("the Model has no " + m, e);
        }
    }

    int calls() {
        return calls;
    }

    boolean isSpent() {
        return calls >= MOST_CALLS;
    }

    /** What the Model answers. An object that is spent is asked nothing. */
    long ask(String name, long... arguments) {
        if (isSpent()) return 0;
        calls++;
        String call = title + ", call " + calls + ": " + name + Arrays.toString(arguments);
        long want = answer(call, OF_MODEL.get(name), model, arguments);
        checks.due(call, answer(call, OF_PROGRAM.get(name), program, arguments), want);
        tally.add(name, want, calls);
        return want;
    }

    private static long answer(String call, Method m, Object of, long[] arguments) {
        Object[] boxed = new Object[arguments.length];
        for (int i = 0; i < arguments.length; i++) {
            boolean isInt = m.getParameterTypes()[i] == int.class;
            boxed[i] = isInt ? (Object) (int) arguments[i] : (Object) arguments[i];
        }
        try {
            return ((Number) m.invoke(of, boxed)).longValue();
        } catch (IllegalAccessException | InvocationTargetException e) {
            throw new IllegalStateException(call + " threw", e);
        }
    }
}
