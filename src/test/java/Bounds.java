import java.lang.reflect.InvocationTargetException;
import java.lang.reflect.Method;
import java.util.ArrayList;
import java.util.Comparator;
import java.util.List;
import java.util.Map;
import java.util.function.Supplier;
import java.util.function.ToIntFunction;

/** What the tests of single sentences share. Each of them is a method p.._.. that bears the Sentence it is for. */
abstract class Bounds {
    static final int NONE = -1, UNKNOWN = -101, OUTSIDE = -102, STATE = -103, FULL = -104, CONFLICTS = -105;
    static final int NULL = -11, INDEX = -12, SIZE = -13, STORE = -14, UNLIKE = -15, CAST = -16, SEALED = -17, MISFIT = -18;
    static final int LEAST = Integer.MIN_VALUE, MOST = Integer.MAX_VALUE;

    private static Checks checks;
    private static String sentence = "";

    /** By reflection, so that no test can be written and not run. */
    static List<Method> testsOf(Class<? extends Bounds> tests) {
        List<Method> found = new ArrayList<>();
        for (Method m : tests.getDeclaredMethods()) {
            if (m.isAnnotationPresent(Sentence.class)) found.add(m);
        }
        found.sort(Comparator.comparing(Method::getName));
        return found;
    }

    static String nameOf(Method test) {
        return test.getName() + " \"" + test.getAnnotation(Sentence.class).value() + "\"";
    }

    static void runAll(Class<? extends Bounds> tests) throws IllegalAccessException {
        checks = new Checks(tests.getSimpleName());
        for (Method test : testsOf(tests)) {
            sentence = nameOf(test);
            test.setAccessible(true);
            try {
                test.invoke(null);
            } catch (InvocationTargetException thrown) {
                due("threw " + thrown.getCause(), 1, 0);
            }
        }
        checks.end();
    }

    static void due(String call, long got, long want) {
        checks.due(sentence + ": " + call, got, want);
    }

    /**
     * The call answers so, and leaves all as it is for a twin that did not meet it, but for the FINDING, if it is one,
     * and for what is told as free to change (by the names that State gives).
     */
    static void refused(String call, Supplier<GraphPhotographer> scene, ToIntFunction<GraphPhotographer> ask, int want,
            String... mayChange) {
        GraphPhotographer g = scene.get();
        GraphPhotographer twin = scene.get();
        due(call, ask.applyAsInt(g), want);
        int found = want <= NULL && want >= MISFIT ? -10 - want : 0;
        due(call + ", then finding()", g.finding(), found == 0 ? twin.finding() : found);
        for (int f = 1; f < 9; f++) {
            due(call + ", then findings(" + f + ")", g.findings(f), twin.findings(f) + (f == found ? 1 : 0));
        }
        Map<String, Long> got = State.of(() -> {
            GraphPhotographer again = scene.get();
            ask.applyAsInt(again);
            return again;
        });
        Map<String, Long> was = State.of(scene);
        for (String name : mayChange) {
            got.remove(name);
            was.remove(name);
        }
        sameState(call, got, was);
    }

    private static void sameState(String call, Map<String, Long> got, Map<String, Long> was) {
        due(call + ", then how much there is to be told", got.size(), was.size());
        for (Map.Entry<String, Long> due : was.entrySet()) {
            Long now = got.get(due.getKey());
            if (now != null) due(call + ", then " + due.getKey(), now, due.getValue());
        }
    }
}
