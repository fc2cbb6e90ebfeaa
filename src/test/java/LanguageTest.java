import java.io.IOException;
import java.lang.reflect.Field;
import java.lang.reflect.Method;
import java.lang.reflect.Modifier;
import java.nio.file.Files;
import java.nio.file.Path;
import java.util.ArrayList;
import java.util.List;
import java.util.Set;
import java.util.TreeSet;
import java.util.regex.Matcher;
import java.util.regex.Pattern;

/** The rules of LANGUAGE.md that the program's text, and the compiled class, can show; run from the project's folder. */
public final class LanguageTest {
    private static final String FACE = "face() kind(int) component(int,int) close(int) rowOf(int) about(int,int) is(int,int)"
            + " make(int,int) multi(int,int,int) record(int) box(int,long) seal(int) get(int,int) put(int,int,int,long)"
            + " set(int,int,int) copy(int,int,int,int,int) length(int) classOf(int) sealed(int) shallow(int) deep(int) seen()"
            + " like(int,int) hash(int) least(int) groups() name(int,int) root(int) path(int,int) sweep() photo()"
            + " picture(int,int) entry(int,int,int) differ(int,int) edit(int,int) lay(int) misfit() merge(int,int,int)"
            + " conflict(int,int) restore(int) finding() findings(int) count(int) digest()";
    private static final Set<String> LONGS = Set.of("seen", "edit", "digest");
    private static final String[] BANNED = {"\\bthrow\\b", "\\btry\\b", "\\bcatch\\b", "\\bsynchronized\\b", "\\bassert\\b",
        "->", "::", "Exact\\b", "\\bstatic\\s*\\{", "\\bpackage\\b", "\\bFloat\\b", "\\bDouble\\b", "\\bString\\b",
        "\\bhashCode\\b", "\\bequals\\b", "\\btoString\\b", "\\bvar\\b", "\\bgoto\\b", "@", "\\bprotected\\b", "\\[\\]\\[\\]",
        "\\bRandom\\b", "\\bnanoTime\\b", "\\bcurrentTimeMillis\\b", "\\bfloat\\b", "\\bdouble\\b"};
    private static final Checks CHECKS = new Checks("LanguageTest");

    public static void main(String[] args) throws IOException {
        String text = Files.readString(Path.of("src/main/java/GraphPhotographer.java"));
        text(text.replaceAll("(?s)/\\*.*?\\*/", " ").replaceAll("//[^\n]*", " "));
        methodsStayShort(text);
        face();
        for (Class<?> c : all()) members(c);
        CHECKS.due("rule 11: classes", all().size() <= 12 ? 1 : 0, 1);
        CHECKS.end();
    }

    private static List<Class<?>> all() {
        List<Class<?>> all = new ArrayList<>(List.of(GraphPhotographer.class.getDeclaredClasses()));
        all.add(GraphPhotographer.class);
        return all;
    }

    private static void text(String code) {
        for (String banned : BANNED) {
            CHECKS.due("the text has " + banned, Pattern.compile(banned).matcher(code).find() ? 1 : 0, 0);
        }
        Matcher imports = Pattern.compile("import ([^;]*);").matcher(code);
        while (imports.find()) CHECKS.due("import " + imports.group(1), imports.group(1).equals("java.util.Arrays") ? 1 : 0, 1);
        Matcher library = Pattern.compile("\\b(Arrays|Math|Integer|Long|System)\\.(\\w+)").matcher(code);
        Set<String> listed = Set.of("Arrays.fill", "Arrays.copyOf", "Math.max", "Math.min", "System.arraycopy");
        while (library.find()) CHECKS.due("rule 4: " + library.group(), listed.contains(library.group()) ? 1 : 0, 1);
    }

    private static void methodsStayShort(String text) {
        int start = -1;
        String[] lines = text.split("\n");
        for (int at = 0; at < lines.length; at++) {
            CHECKS.due("line " + (at + 1) + " is long", lines[at].length() <= 130 ? 1 : 0, 1);
            if (lines[at].matches(" {4,8}[a-zA-Z].*\\) \\{")) start = at;
            boolean ends = start >= 0 && lines[at].matches(" {4,8}\\}");
            if (ends) CHECKS.due("rule 11: " + lines[start].trim(), at - start < 60 ? 1 : 0, 1);
            if (ends) start = -1;
        }
    }

    private static String told(Method m) {
        StringBuilder s = new StringBuilder(m.getName()).append('(');
        for (Class<?> p : m.getParameterTypes()) s.append(s.charAt(s.length() - 1) == '(' ? "" : ",").append(p.getSimpleName());
        return s.append(')').toString();
    }

    private static void face() {
        Class<?> c = GraphPhotographer.class;
        Set<String> got = new TreeSet<>();
        for (Method m : c.getDeclaredMethods()) {
            if (m.isSynthetic()) continue;
            if (Modifier.isPrivate(m.getModifiers())) continue;
            got.add(told(m));
            Class<?> due = LONGS.contains(m.getName()) ? long.class : int.class;
            CHECKS.due("what " + m.getName() + " answers", m.getReturnType() == due ? 1 : 0, 1);
            CHECKS.due(m.getName() + " is public", Modifier.isPublic(m.getModifiers()) ? 1 : 0, 1);
        }
        Set<String> want = new TreeSet<>(List.of(FACE.split(" ")));
        CHECKS.due("the methods of the face are " + got, got.equals(want) ? 1 : 0, 1);
        CHECKS.due("it is final", Modifier.isFinal(c.getModifiers()) ? 1 : 0, 1);
        CHECKS.due("one constructor", c.getDeclaredConstructors().length, 1);
        Set<String> constants = new TreeSet<>();
        for (Field f : c.getDeclaredFields()) if (!Modifier.isPrivate(f.getModifiers())) constants.add(f.getName());
        Set<String> due = Set.of("NONE", "UNKNOWN", "OUTSIDE", "STATE", "FULL", "CONFLICTS");
        CHECKS.due("the constants are " + constants, constants.equals(new TreeSet<>(due)) ? 1 : 0, 1);
    }

    private static void members(Class<?> c) {
        if (c != GraphPhotographer.class) CHECKS.due(c + " is static", Modifier.isStatic(c.getModifiers()) ? 1 : 0, 1);
        Set<String> names = new TreeSet<>();
        for (String call : FACE.split(" ")) names.add(call.substring(0, call.indexOf('(')));
        for (Method m : c.getDeclaredMethods()) {
            boolean own = Modifier.isPublic(m.getModifiers()) && c == GraphPhotographer.class;
            CHECKS.due("rule 1: " + c + " " + m.getName(), !own && names.contains(m.getName()) ? 1 : 0, 0);
            CHECKS.due("rule 11: " + m, m.getParameterCount() <= 7 ? 1 : 0, 1);
        }
        int fields = 0;
        for (Field f : c.getDeclaredFields()) {
            boolean isStatic = Modifier.isStatic(f.getModifiers());
            if (!isStatic) fields++;
            boolean constant = f.getType() == int.class || f.getType() == long.class;
            if (isStatic) CHECKS.due("rule 5: " + f, constant && Modifier.isFinal(f.getModifiers()) ? 1 : 0, 1);
        }
        CHECKS.due("rule 11: fields of " + c, fields <= 20 ? 1 : 0, 1);
    }
}
