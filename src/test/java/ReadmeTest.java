import java.io.IOException;
import java.lang.reflect.Method;
import java.lang.reflect.Modifier;
import java.nio.charset.StandardCharsets;
import java.nio.file.Files;
import java.nio.file.Path;
import java.util.ArrayList;
import java.util.Arrays;
import java.util.List;
import java.util.Set;
import java.util.TreeMap;
import java.util.TreeSet;
import java.util.regex.Matcher;
import java.util.regex.Pattern;

/** What README.md shows: its Java is one run that compiles, and answers as it says; its commands run. */
public final class ReadmeTest {
    /** A statement, and behind it what its call answers. */
    private static final Pattern SHOWN = Pattern.compile("(?:(int|long|boolean) (\\w+) = )?(.*); +// (true|false|-?\\d+)(?:: .*)?");
    private static final Pattern BLOCK = Pattern.compile("(?s)```(\\w+)\n(.*?)```\n");
    private static final String NEW = "ThinLine x = new ThinLine();";

    private static final List<String> calls = new ArrayList<>();
    private static final List<String> answers = new ArrayList<>();

    public static void main(String[] args) throws IOException, InterruptedException {
        String page = Files.readString(Path.of("README.md"), StandardCharsets.ISO_8859_1);
        Tree tree = new Tree();
        tree.copy(Path.of("src/main/java"), "project/src/main/java");
        tree.copy(Path.of("src/test/java"), "project/src/test/java");
        commandsRun(tree, page);
        answersAreShown(tree, page);
        tree.remove();
        everyCallIsShown(page);
        refusedAnswers(page);
        namedFilesAreThere(page);
        Due.end();
    }

    private static List<String> blocks(String page, String language) {
        List<String> found = new ArrayList<>();
        Matcher m = BLOCK.matcher(page);
        while (m.find()) if (m.group(1).equals(language)) found.add(m.group(2));
        return found;
    }

    /** Commands but .ci/run, which would come back to this test: CiTest runs it in a project of its own. */
    private static void commandsRun(Tree tree, String page) throws IOException, InterruptedException {
        int ci = 0;
        for (String block : blocks(page, "sh")) {
            if (block.equals(".ci/run\n")) {
                ci++;
                Due.due(".ci/run may be run", Files.isExecutable(Path.of(".ci/run")), true);
            } else {
                int code = tree.run("bash", "-e", "-c", block);
                Due.due(block + tree.printed(), code, 0);
            }
        }
        Due.due("README.md shows .ci/run", ci, 1);
    }

    private static void answersAreShown(Tree tree, String page) throws IOException, InterruptedException {
        tree.write("project/Shown.java", program(page));
        int compiled = tree.run("javac", "-Xlint:all", "-Werror", "-cp", "out", "-d", "out", "Shown.java");
        Due.due("what README.md shows compiles: " + tree.printed(), compiled, 0);
        Due.due("what README.md shows runs", tree.run("java", "-cp", "out", "Shown"), 0);
        String[] got = tree.printed().strip().split("\n");
        Due.due("so many answers", got.length, answers.size());
        Due.due("README.md shows at most 512 calls", answers.size() <= 512, true);
        for (int i = 0; i < got.length && i < answers.size(); i++) {
            String told = calls.get(i) + " answered " + got[i] + ", README.md says " + answers.get(i);
            Due.due(told, got[i].equals(answers.get(i)), true);
        }
    }

    /** All Java of the page: functions as they are, statements so that they print what they answer. */
    private static String program(String page) {
        StringBuilder members = new StringBuilder();
        StringBuilder run = new StringBuilder();
        for (String block : blocks(page, "java")) {
            if (block.startsWith("static ")) members.append(block);
            else for (String line : block.strip().split("\n")) run.append(statement(line)).append('\n');
        }
        return "final class Shown {\n" + members + "static void say(long n) { System.out.println(n); }\n"
            + "static void say(boolean n) { System.out.println(n); }\n"
            + "public static void main(String[] args) {\n" + run + "}\n}\n";
    }

    private static String statement(String line) {
        if (line.equals(NEW)) return line;
        Matcher m = SHOWN.matcher(line);
        boolean shown = m.matches();
        Due.due("an answer stands behind: " + line, shown, true);
        if (!shown) return line;
        calls.add(m.group(3));
        answers.add(m.group(4));
        if (m.group(1) == null) return "say(" + m.group(3) + ");";
        return m.group(1) + " " + m.group(2) + " = " + m.group(3) + "; say(" + m.group(2) + ");";
    }

    private static Set<String> face() {
        Set<String> names = new TreeSet<>();
        for (Method m : ThinLine.class.getDeclaredMethods()) if (Modifier.isPublic(m.getModifiers())) names.add(m.getName());
        return names;
    }

    private static void everyCallIsShown(String page) {
        String shown = String.join("", blocks(page, "java"));
        for (String name : face()) Due.due("README.md shows " + name, shown.contains("x." + name + "("), true);
    }

    /** The table of answers where nothing is as told, held against a new object. */
    private static void refusedAnswers(String page) {
        TreeMap<String, Integer> rows = new TreeMap<>();
        Matcher row = Pattern.compile("\n\\| (`.*`) \\| (\\S+) (?=\\|)").matcher(page);
        while (row.find()) {
            long due = row.group(2).equals("false") ? 0 : Long.parseLong(row.group(2));
            for (String name : row.group(1).replace("`", "").split(", ")) {
                rows.merge(name, 1, Integer::sum);
                Due.due("without these, " + name, refused(name), due);
            }
        }
        Set<String> inTable = face();
        inTable.remove("feed");
        Due.due("the table has each call once: " + rows, rows.keySet().equals(inTable) && !rows.values().contains(2), true);
    }

    private static long refused(String name) {
        for (Method m : ThinLine.class.getDeclaredMethods()) {
            if (Modifier.isPublic(m.getModifiers()) && m.getName().equals(name)) {
                int[] args = new int[m.getParameterCount()];
                Arrays.fill(args, -5);
                return Calls.call(new ThinLine(), name, args);
            }
        }
        Due.due("there is a call " + name, false, true);
        return 0;
    }

    private static void namedFilesAreThere(String page) {
        Matcher m = Pattern.compile("`((?:\\.\\./|src/|\\.ci/)[\\w./]+|\\w+\\.md)`").matcher(page);
        int named = 0;
        while (m.find()) {
            named++;
            Due.due("there is " + m.group(1), Files.exists(Path.of(m.group(1))), true);
        }
        Due.due("README.md names files", named > 0, true);
    }
}
