import java.io.IOException;
import java.lang.reflect.Constructor;
import java.lang.reflect.Field;
import java.lang.reflect.Method;
import java.lang.reflect.Modifier;
import java.nio.charset.StandardCharsets;
import java.nio.file.Files;
import java.nio.file.Path;
import java.util.ArrayList;
import java.util.List;
import java.util.Set;
import java.util.TreeSet;
import java.util.regex.Matcher;
import java.util.regex.Pattern;

/** The public face, and those rules of LANGUAGE.md that can be seen from the source and the classes. */
public final class LanguageTest {
    private static final String FACE = """
        boolean clock(int week);
        int row(int glass, int hour);
        int raw(int row, int colour, int n);
        int read(int row, int colour);
        int slip(int glass, int from, int to, int n);
        int anew(int slip, int n);
        int line(int stuff, int colour, int depth);
        int feed(int a, int b, int c, int d, int e);
        int end(int n);
        int text(int sort);
        int make(int law, int row, int seed, int from, int to);
        int curve(int curve, int row, int colour, int what);
        long deep(int curve, int row, int what);
        long moved(int curve, int row, int from);
        int elsewhere(int curve, int row, int what);
        int drawn(int law, int curve, int row, int seed, int n);
        long bent(int curve, int row, int bends);
        long best(int curve, int row, int price, int what);
        int taken(int curve, int row, int d, int w);
        int apart(int one, int other, int bar);
        long stuff(int curve, int row, int stuff, int what);
        int likeliest(int curve, int row);
        int together(int curve, int glasses, int week, int part);
        int hour(int curve, int week, int what);
        int said(int curve, int week, int bar);
        int weeks(int curve, int from, int to, int bar, int glasses, int what);
        long ripple(int curve, int row, int what);
        int smooth(int curve, int row);
        int without(int curve, int row, int slip);
        int weightiest(int curve, int row);
        long deepest(int curve, int row, int what);
        int house(int curve, int bar, int glasses);
        int says(int house, int week);
        int agreed(int week);
        int alone(int week);
        int odd(int curve, int glass);
        int candidate(int glass, int hours);
        long next(int curve, int hours, int what);
        int told(int what, int n);
        int gives(int way);
        int brief(int need);
        int fewest(int need, int what);
        int count(int what);
        int image(int k);
        int back(int k);
        """;

    /** Rules 3, 4, 6 and 13, as signs that may not stand in the source. */
    private static final String[] FORBIDDEN = {
        "\\bthrow\\b", "\\bthrows\\b", "\\btry\\b", "\\bcatch\\b", "\\bfinally\\b", "\\bsynchronized\\b", "\\bassert\\b", "->", "::",
        "\\bvolatile\\b", "\\bnative\\b", "\\bprotected\\b", "\\bObject\\b", "\\bthis\\b\\s*\\)", "Exact\\b", "\\bMath\\.(sqrt|pow|random)",
        "\\bSystem\\.(?!arraycopy\\b)", "\\bThread\\b", "\\bRandom\\b", "\\bordinal\\b", "\\bhashCode\\b", "\\btoString\\b", "\\bString\\.",
        "\\bdouble\\b", "\\bfloat\\b", "\\bstatic\\s*\\{", "\\bnew\\s+\\w+\\s*\\([^)]*\\)\\s*\\{", "\\bpackage\\b", "\"\\s*\\+|\\+\\s*\""};

    public static void main(String[] args) throws IOException {
        face();
        classes();
        source();
        Due.end();
    }

    private static void face() {
        Due.due("the class is public and final", ThinLine.class.getModifiers(), Modifier.PUBLIC | Modifier.FINAL);
        Set<String> due = new TreeSet<>();
        for (String line : FACE.strip().split("\n")) due.add(line.replaceAll(" \\w+([,)])", "$1").replace(";", "").replace(", ", ","));
        Set<String> there = new TreeSet<>();
        for (Method m : ThinLine.class.getDeclaredMethods()) {
            if (!Modifier.isPrivate(m.getModifiers())) there.add(signature(m));
        }
        for (String s : due) Due.due("there is " + s, there.contains(s), true);
        for (String s : there) Due.due(s + " is in the face", due.contains(s), true);
        Due.due("one constructor", ThinLine.class.getDeclaredConstructors().length, 1);
        for (Constructor<?> c : ThinLine.class.getDeclaredConstructors()) {
            Due.due("the constructor is public", Modifier.isPublic(c.getModifiers()), true);
            Due.due("the constructor takes nothing", c.getParameterCount(), 0);
        }
        for (Field f : ThinLine.class.getDeclaredFields()) {
            Due.due(f.getName() + " is private", Modifier.isPrivate(f.getModifiers()), !f.getName().equals("NONE"));
        }
    }

    private static String signature(Method m) {
        StringBuilder b = new StringBuilder(m.getReturnType().getSimpleName()).append(' ').append(m.getName()).append('(');
        for (int i = 0; i < m.getParameterCount(); i++) b.append(i == 0 ? "" : ",").append(m.getParameterTypes()[i].getSimpleName());
        return b.append(')').toString();
    }

    private static void classes() {
        Set<String> names = new TreeSet<>();
        for (Method m : ThinLine.class.getDeclaredMethods()) if (Modifier.isPublic(m.getModifiers())) names.add(m.getName());
        List<Class<?>> all = new ArrayList<>(List.of(ThinLine.class.getDeclaredClasses()));
        for (Class<?> c : all) {
            Due.due(c.getName() + " is static", Modifier.isStatic(c.getModifiers()), true);
            Due.due(c.getName() + " is not public", Modifier.isPublic(c.getModifiers()) || Modifier.isProtected(c.getModifiers()), false);
        }
        all.add(ThinLine.class);
        Due.due("at most twelve classes", all.size() <= 12, true);
        for (Class<?> c : all) {
            int fields = 0;
            for (Field f : c.getDeclaredFields()) {
                if (Modifier.isStatic(f.getModifiers())) Due.due(c.getName() + "." + f.getName() + " is final", Modifier.isFinal(f.getModifiers()), true);
                else fields++;
            }
            Due.due(c.getName() + " has at most twenty fields", fields <= 20, true);
            for (Method m : c.getDeclaredMethods()) {
                Due.due(c.getName() + "." + m.getName() + " takes at most seven", m.getParameterCount() <= 7, true);
                boolean own = c == ThinLine.class && Modifier.isPublic(m.getModifiers());
                Due.due(c.getName() + "." + m.getName() + " has a name of its own", own || !names.contains(m.getName()), true);
            }
        }
    }

    private static void source() throws IOException {
        String source = Files.readString(Path.of("src/main/java/ThinLine.java"), StandardCharsets.ISO_8859_1);
        for (char c : source.toCharArray()) {
            if (c > 126 || (c < 32 && c != '\n')) Due.due("a sign of the source", c, ' ');
        }
        for (String line : source.split("\n")) {
            if (line.startsWith("import")) Due.due(line, line.equals("import java.util.Arrays;"), true);
        }
        String bare = source.replaceAll("/\\*(?s:.*?)\\*/", " ").replaceAll("//[^\n]*", " ");
        for (String forbidden : FORBIDDEN) {
            Matcher m = Pattern.compile(forbidden).matcher(bare);
            Due.due("in the source: " + forbidden, m.find(), false);
        }
        methodsAreShort(source);
    }

    private static void methodsAreShort(String source) {
        String[] lines = source.split("\n");
        Pattern opens = Pattern.compile("^( {4}| {8})(public|private)[^=;]*\\) \\{$");
        for (int i = 0; i < lines.length; i++) {
            Matcher m = opens.matcher(lines[i]);
            if (!m.matches()) continue;
            int to = i;
            while (!lines[to].equals(m.group(1) + "}")) to++;
            Due.due("at most sixty lines: " + lines[i].strip(), to - i + 1 <= 60, true);
        }
    }
}
