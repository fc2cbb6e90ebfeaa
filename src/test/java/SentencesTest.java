import java.io.IOException;
import java.lang.reflect.Method;
import java.nio.file.Files;
import java.nio.file.Path;
import java.util.HashSet;
import java.util.List;
import java.util.Set;
import java.util.regex.Matcher;
import java.util.regex.Pattern;

/** That each promise has tests of its sentences, and that each of these is found by its name. */
public final class SentencesTest {
    private static final Path DOCUMENT = Path.of("../shared/DOC.md");
    private static final List<Class<? extends Bounds>> ALL = List.of(BoundsOfTermsTest.class, BoundsOfClassesTest.class,
            BoundsOfMakingTest.class, BoundsOfElementsTest.class, BoundsOfLikenessTest.class, BoundsOfRootsTest.class,
            BoundsOfPicturesTest.class, BoundsOfEditsTest.class, BoundsOfMergeTest.class, BoundsOfToldTest.class);
    private static final Checks CHECKS = new Checks("SentencesTest");

    public static void main(String[] args) throws IOException {
        Set<Integer> promises = new HashSet<>();
        for (Class<? extends Bounds> tests : ALL) {
            for (Method test : Bounds.testsOf(tests)) {
                int promise = promiseOf(test);
                CHECKS.due(test.getName() + " names its promise", promise >= 0 && promise <= 45 ? 1 : 0, 1);
                promises.add(promise);
            }
            noTestIsLeftOut(tests);
        }
        for (int promise = 0; promise <= 45; promise++) {
            CHECKS.due("tests of promise " + promise, promises.contains(promise) ? 1 : 0, 1);
        }
        if (Files.isReadable(DOCUMENT)) tellStrangers(Files.readString(DOCUMENT));
        CHECKS.end();
    }

    private static int promiseOf(Method test) {
        Matcher name = Pattern.compile("p(\\d\\d)_.*").matcher(test.getName());
        return name.matches() ? Integer.parseInt(name.group(1)) : -1;
    }

    private static void noTestIsLeftOut(Class<? extends Bounds> tests) {
        for (Method m : tests.getDeclaredMethods()) {
            boolean named = promiseOf(m) >= 0;
            CHECKS.due(m.getName() + " bears its sentence", named == m.isAnnotationPresent(Sentence.class) ? 1 : 0, 1);
        }
    }

    /** A note and no failure: that the document says a thing in other words does not make a test wrong. */
    private static void tellStrangers(String document) {
        for (Class<? extends Bounds> tests : ALL) {
            for (Method test : Bounds.testsOf(tests)) {
                String says = test.getAnnotation(Sentence.class).value();
                if (!textOf(document, promiseOf(test)).contains(says)) {
                    System.out.println("note: the document has not the words of " + Bounds.nameOf(test));
                }
            }
        }
    }

    private static String textOf(String document, int promise) {
        int from = promise == 0 ? 0 : document.indexOf("## Promise " + promise + ":");
        int to = document.indexOf("\n## Promise " + (promise + 1) + ":", Math.max(from, 0));
        return from < 0 ? "" : document.substring(from, to < 0 ? document.length() : to);
    }
}
