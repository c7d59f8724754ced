import java.io.IOException;
import java.nio.file.Path;

/** What README.md says of .ci/run, in a small project of its own: it fails if anything fails, and says what. */
public final class CiTest {
    private static final String SHARED = "shared/tests/SharedRuns.java";
    private static final String OWN = "project/src/test/java/OwnTest.java";
    private static final String CLASS = "project/src/main/java/ThinLine.java";

    public static void main(String[] args) throws IOException, InterruptedException {
        run("all pass", 0, 0, true, "2 passed, 0 failed");
        run("a shared test fails", 1, 0, false, "1 passed, 1 failed");
        run("a test of the project fails", 0, 1, false, "1 passed, 1 failed");
        run("both fail", 1, 1, false, "0 passed, 2 failed");
        broken("a shared test does not compile", SHARED, "1 passed, 1 failed");
        broken("a test of the project does not compile", OWN, "1 passed, 1 failed");
        broken("the class does not compile", CLASS, "0 passed, 2 failed");
        nothingShared();
        Due.end();
    }

    /** A test in the form of those under ../shared/tests, that wants NOW of a new object to be a number. */
    private static String wanting(String name, int now) {
        return "public final class " + name + " {\n    public static void main(String[] args) {\n"
            + "        if (new ThinLine().count(0) != " + now + ") System.exit(1);\n    }\n}\n";
    }

    private static Tree tree(int sharedWants, int ownWants) throws IOException {
        Tree tree = new Tree();
        tree.copy(Path.of(".ci/run"), "project/.ci/run");
        tree.copy(Path.of("src/main/java/ThinLine.java"), CLASS);
        tree.write(SHARED, wanting("SharedRuns", sharedWants));
        tree.write(OWN, wanting("OwnTest", ownWants));
        return tree;
    }

    private static void run(String name, int sharedWants, int ownWants, boolean passes, String last)
            throws IOException, InterruptedException {
        end(name, tree(sharedWants, ownWants), passes, last);
    }

    private static void broken(String name, String file, String last) throws IOException, InterruptedException {
        Tree tree = tree(0, 0);
        tree.write(file, "public final class {");
        end(name, tree, false, last);
    }

    private static void nothingShared() throws IOException, InterruptedException {
        Tree tree = tree(0, 0);
        tree.delete(SHARED);
        end("no shared tests", tree, false, "1 passed, 1 failed");
    }

    private static void end(String name, Tree tree, boolean passes, String last) throws IOException, InterruptedException {
        int code = tree.run(".ci/run");
        Due.due(name + ": exit code 0", code == 0, passes);
        Due.due(name + ": it closes with " + last + ", not " + tree.lastLine(), tree.lastLine().equals(last), true);
        Due.due(name + ": it tells what fails", tree.printed().contains("FAILED") || tree.printed().contains("no tests"), !passes);
        tree.remove();
    }
}
