import java.io.IOException;
import java.net.URL;
import java.net.URLClassLoader;
import java.nio.file.Files;
import java.nio.file.Path;
import java.util.ArrayList;
import java.util.List;
import java.util.function.Supplier;
import java.util.regex.Matcher;
import java.util.regex.Pattern;

/** The example of README.md: each call answers what the number behind it says; run from the project's folder. */
public final class ReadmeTest {
    private static final Pattern EXAMPLE = Pattern.compile("(?s)```java\n(.*?)```");
    private static final Pattern CALL = Pattern.compile("(int (\\w+) = )?(g\\.\\w+\\(.*\\));\\s+// (-?\\d+)\\b.*");
    private static final Checks CHECKS = new Checks("ReadmeTest");

    private final List<String> calls = new ArrayList<>();
    private final List<Long> due = new ArrayList<>();
    private final StringBuilder body = new StringBuilder();

    public static void main(String[] args) throws IOException, InterruptedException, ReflectiveOperationException {
        Matcher example = EXAMPLE.matcher(Files.readString(Path.of("README.md")));
        int examples = 0;
        for (; example.find(); examples++) new ReadmeTest().check(example.group(1));
        CHECKS.due("examples", examples, 1);
        CHECKS.end();
    }

    private void check(String example) throws IOException, InterruptedException, ReflectiveOperationException {
        for (String line : example.split("\n")) take(line.trim());
        long[] told = answers();
        for (int i = 0; i < told.length; i++) CHECKS.due(calls.get(i), told[i], due.get(i));
    }

    private void take(String line) {
        Matcher call = CALL.matcher(line);
        boolean isCall = call.matches();
        CHECKS.due("an answer stands behind " + line, !isCall && line.startsWith("g.") ? 1 : 0, 0);
        if (!isCall) {
            body.append(line).append('\n');
            return;
        }
        String told = "told[" + calls.size() + "] = ";
        if (call.group(2) == null) body.append(told).append(call.group(3)).append(";\n");
        else body.append(call.group(1)).append(call.group(3)).append(";\n").append(told).append(call.group(2)).append(";\n");
        calls.add(call.group(3));
        due.add(Long.parseLong(call.group(4)));
    }

    private long[] answers() throws IOException, InterruptedException, ReflectiveOperationException {
        Path folder = Files.createTempDirectory("readme");
        Path source = folder.resolve("ReadmeExample.java");
        Files.writeString(source, "public final class ReadmeExample implements java.util.function.Supplier<long[]> {\n"
                + "public long[] get() {\nlong[] told = new long[" + calls.size() + "];\n" + body + "return told;\n}\n}\n");
        int failed = new ProcessBuilder("javac", "-cp", System.getProperty("java.class.path"), "-d", folder.toString(),
                source.toString()).inheritIO().start().waitFor();
        CHECKS.due("the example's compiler", failed, 0);
        if (failed != 0) return new long[0];
        try (URLClassLoader loader = new URLClassLoader(new URL[] {folder.toUri().toURL()})) {
            Object made = loader.loadClass("ReadmeExample").getConstructor().newInstance();
            return (long[]) ((Supplier<?>) made).get();
        } finally {
            Files.deleteIfExists(folder.resolve("ReadmeExample.class"));
            Files.deleteIfExists(source);
            Files.deleteIfExists(folder);
        }
    }
}
