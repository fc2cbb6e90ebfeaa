import java.io.IOException;
import java.lang.reflect.Constructor;
import java.lang.reflect.Field;
import java.lang.reflect.Method;
import java.lang.reflect.Modifier;
import java.nio.file.Files;
import java.nio.file.Path;
import java.util.ArrayList;
import java.util.List;
import java.util.Set;
import java.util.TreeSet;
import java.util.regex.Matcher;
import java.util.regex.Pattern;

/** The rules of LANGUAGE.md that the program's text, and the compiled class, can show; run from the project's folder. */
public final class LanguageTest {
    private static final String FACE = "face() kind(int) component(int,int) close(int) rowOf(int) about(int,int) is(int,int)"
            + " make(int,int) multi(int,int,int) record(int) box(int,long) seal(int) get(int,int) put(int,int,int,long)"
            + " set(int,int,int) copy(int,int,int,int,int) length(int) classOf(int) sealed(int) shallow(int) deep(int) seen()"
            + " like(int,int) hash(int) least(int) groups() name(int,int) root(int) path(int,int) sweep() photo()"
            + " picture(int,int) entry(int,int,int) differ(int,int) edit(int,int) lay(int) misfit() merge(int,int,int)"
            + " conflict(int,int) restore(int) finding() findings(int) count(int) digest()";
    private static final Set<String> LONGS = Set.of("seen", "edit", "digest");
    /** By rule: what the text has not. */
    private static final String[][] BANNED = {{"1", "\\bpackage\\b"}, {"2", "::"}, {"2", "(?m)^(?!\\s*(case|default)\\b).*->"},
        {"4", "Exact\\b"}, {"4", "\\bMath\\.(random|sqrt|pow|sin|cos|floor|ceil|round|rint|log|exp)\\b"}, {"4", "\\bjava\\.lang\\b"},
        {"5", "\\bstatic\\s*\\{"}, {"6", "\\b(throw|throws|try|catch|synchronized|assert)\\b"}, {"6", "\\bhashCode\\b"},
        {"13", "\\b(Random|nanoTime|currentTimeMillis|Thread|Runtime|getenv|getProperty|identityHashCode)\\b"}};
    private static final Set<String> IMPORTS = Set.of("java.util.Arrays", "java.util.ArrayList", "java.util.List", "java.util.Iterator");
    private static final Set<Class<?>> CONSTANTS = Set.of(int.class, long.class, boolean.class, char.class, String.class, int[].class,
            long[].class, char[].class, byte[].class);
    private static final Checks CHECKS = new Checks("LanguageTest");

    public static void main(String[] args) throws IOException {
        String text = Files.readString(Path.of("src/main/java/GraphPhotographer.java"));
        text(text.replaceAll("(?s)/\\*.*?\\*/", " ").replaceAll("//[^\n]*", " "));
        methodsStayShort(text);
        face();
        for (Class<?> c : all()) members(c);
        CHECKS.due("rule 11: classes", all().size() <= 12 ? 1 : 0, 1);
        CHECKS.end();
    }

    private static List<Class<?>> all() {
        List<Class<?>> all = new ArrayList<>(List.of(GraphPhotographer.class.getDeclaredClasses()));
        all.add(GraphPhotographer.class);
        return all;
    }

    private static void text(String code) {
        for (String[] banned : BANNED) {
            CHECKS.due("rule " + banned[0] + ": the text has " + banned[1], Pattern.compile(banned[1]).matcher(code).find() ? 1 : 0, 0);
        }
        Matcher imports = Pattern.compile("import ([^;]*);").matcher(code);
        while (imports.find()) CHECKS.due("rule 4: import " + imports.group(1), IMPORTS.contains(imports.group(1)) ? 1 : 0, 1);
        Matcher library = Pattern.compile("\\b(Arrays|System)\\.(\\w+)").matcher(code);
        Set<String> listed = Set.of("Arrays.fill", "Arrays.copyOf", "Arrays.copyOfRange", "System.arraycopy");
        while (library.find()) CHECKS.due("rule 4: " + library.group(), listed.contains(library.group()) ? 1 : 0, 1);
    }

    private static void methodsStayShort(String text) {
        int start = -1;
        String[] lines = text.split("\n");
        for (int at = 0; at < lines.length; at++) {
            if (lines[at].matches(" {4,8}[a-zA-Z].*\\) \\{")) start = at;
            boolean ends = start >= 0 && lines[at].matches(" {4,8}\\}");
            if (ends) CHECKS.due("rule 11: " + lines[start].trim(), at - start <= 62 ? 1 : 0, 1);
            if (ends) start = -1;
        }
    }

    private static String told(Method m) {
        StringBuilder s = new StringBuilder(m.getName()).append('(');
        for (Class<?> p : m.getParameterTypes()) s.append(s.charAt(s.length() - 1) == '(' ? "" : ",").append(p.getSimpleName());
        return s.append(')').toString();
    }

    private static void face() {
        Class<?> c = GraphPhotographer.class;
        Set<String> got = new TreeSet<>();
        for (Method m : c.getDeclaredMethods()) {
            if (m.isSynthetic() || Modifier.isPrivate(m.getModifiers())) continue;
            got.add(told(m));
            Class<?> due = LONGS.contains(m.getName()) ? long.class : int.class;
            CHECKS.due("rule 1: what " + m.getName() + " answers", m.getReturnType() == due ? 1 : 0, 1);
            // nothing beside it: neither static nor synchronized
            CHECKS.due("rule 1: " + m.getName() + " is public", m.getModifiers(), Modifier.PUBLIC);
        }
        Set<String> want = new TreeSet<>(List.of(FACE.split(" ")));
        CHECKS.due("rule 1: the methods of the face are " + got, got.equals(want) ? 1 : 0, 1);
        CHECKS.due("rule 1: it is final", Modifier.isFinal(c.getModifiers()) ? 1 : 0, 1);
        CHECKS.due("rule 1: it is public", Modifier.isPublic(c.getModifiers()) ? 1 : 0, 1);
        CHECKS.due("rule 1: it extends and implements nothing", c.getSuperclass() == Object.class ? c.getInterfaces().length : 1, 0);
        CHECKS.due("rule 1: one constructor", c.getDeclaredConstructors().length, 1);
        for (Constructor<?> made : c.getDeclaredConstructors()) {
            CHECKS.due("rule 1: the constructor is public", made.getModifiers(), Modifier.PUBLIC);
            CHECKS.due("rule 1: what the constructor takes", made.getParameterCount(), 0);
        }
        constants(c);
    }

    private static void constants(Class<?> c) {
        Set<String> constants = new TreeSet<>();
        for (Field f : c.getDeclaredFields()) {
            if (Modifier.isPrivate(f.getModifiers())) continue;
            constants.add(f.getName());
            CHECKS.due("rule 1: " + f.getName() + " is an int", f.getType() == int.class ? 1 : 0, 1);
            CHECKS.due("rule 1: " + f.getName() + " is a constant", f.getModifiers(), Modifier.PUBLIC | Modifier.STATIC | Modifier.FINAL);
        }
        Set<String> due = Set.of("NONE", "UNKNOWN", "OUTSIDE", "STATE", "FULL", "CONFLICTS");
        CHECKS.due("rule 1: the constants are " + constants, constants.equals(new TreeSet<>(due)) ? 1 : 0, 1);
    }

    private static void members(Class<?> c) {
        boolean inside = c != GraphPhotographer.class;
        int hidden = Modifier.PUBLIC | Modifier.PROTECTED;
        if (inside) CHECKS.due("rule 2: " + c + " is static", Modifier.isStatic(c.getModifiers()) ? 1 : 0, 1);
        if (inside) CHECKS.due("rule 1: " + c + " is hidden", c.getModifiers() & hidden, 0);
        Set<String> names = new TreeSet<>();
        for (String call : FACE.split(" ")) names.add(call.substring(0, call.indexOf('(')));
        for (Method m : c.getDeclaredMethods()) {
            boolean twice = Modifier.isPrivate(m.getModifiers()) && names.contains(m.getName());
            CHECKS.due("rule 1: private " + m.getName() + " of " + c, twice ? 1 : 0, 0);
            CHECKS.due("rule 11: " + m, m.getParameterCount() <= 7 ? 1 : 0, 1);
        }
        int fields = 0;
        for (Field f : c.getDeclaredFields()) {
            boolean isStatic = Modifier.isStatic(f.getModifiers());
            if (!isStatic) fields++;
            if (isStatic && !c.isEnum()) {
                boolean kept = CONSTANTS.contains(f.getType()) || f.getType().isArray() && f.getType().getComponentType().isEnum();
                CHECKS.due("rule 5: " + f, kept && Modifier.isFinal(f.getModifiers()) ? 1 : 0, 1);
            }
        }
        CHECKS.due("rule 11: fields of " + c, fields <= 20 ? 1 : 0, 1);
    }
}
