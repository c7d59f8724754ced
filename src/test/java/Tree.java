import java.io.IOException;
import java.nio.charset.StandardCharsets;
import java.nio.file.Files;
import java.nio.file.Path;
import java.util.Comparator;
import java.util.List;
import java.util.stream.Stream;

/** A folder for a while, with a project and what is shared beside it, in which commands are run. */
final class Tree {
    private final Path top;
    private String printed = "";

    Tree() throws IOException {
        top = Files.createTempDirectory("thinline");
    }

    Path project() {
        return top.resolve("project");
    }

    void write(String name, String text) throws IOException {
        Path file = top.resolve(name);
        Files.createDirectories(file.getParent());
        Files.writeString(file, text, StandardCharsets.ISO_8859_1);
    }

    /** A copy of a file, or of all files of a folder, under its own name; may be run if the first one may. */
    void copy(Path from, String to) throws IOException {
        if (Files.isDirectory(from)) {
            for (Path file : filesIn(from)) copy(file, to + "/" + file.getFileName());
            return;
        }
        Path file = top.resolve(to);
        Files.createDirectories(file.getParent());
        Files.copy(from, file);
        if (Files.isExecutable(from)) file.toFile().setExecutable(true);
    }

    void delete(String name) throws IOException {
        Files.delete(top.resolve(name));
    }

    private static List<Path> filesIn(Path folder) throws IOException {
        try (Stream<Path> files = Files.list(folder)) {
            return files.filter(Files::isRegularFile).sorted().toList();
        }
    }

    /** Runs a command in the project: its exit code. */
    int run(String... command) throws IOException, InterruptedException {
        Process process = new ProcessBuilder(command).directory(project().toFile()).redirectErrorStream(true).start();
        process.getOutputStream().close();
        printed = new String(process.getInputStream().readAllBytes(), StandardCharsets.ISO_8859_1);
        return process.waitFor();
    }

    /** What the last command printed. */
    String printed() {
        return printed;
    }

    String lastLine() {
        String[] lines = printed.strip().split("\n");
        return lines[lines.length - 1];
    }

    void remove() throws IOException {
        try (Stream<Path> all = Files.walk(top)) {
            for (Path path : all.sorted(Comparator.reverseOrder()).toList()) Files.delete(path);
        }
    }
}
