import java.io.File;
import java.io.IOException;
import java.nio.file.Files;
import java.nio.file.Path;
import java.util.ArrayList;
import java.util.Comparator;
import java.util.List;
import java.util.stream.Stream;

/** A second project in a directory of its own, with a shared directory beside it, to run commands in. */
final class Copy {
    private final Path top;
    final Path project;
    final Path shared;

    private Copy(Path top) throws IOException {
        this.top = top;
        project = Files.createDirectories(top.resolve("main"));
        shared = Files.createDirectories(top.resolve("shared").resolve("tests"));
    }

    /** A project with the class and .ci/run alone. */
    static Copy withoutTests() throws IOException {
        Copy copy = new Copy(Files.createTempDirectory("copy"));
        copy.take(".ci/run");
        copy.take("src/main/java/PatternColumns.java");
        return copy;
    }

    void take(String file) throws IOException {
        Path to = project.resolve(file);
        Files.createDirectories(to.getParent());
        Files.copy(Path.of(file), to);
        to.toFile().setExecutable(Path.of(file).toFile().canExecute());
    }

    void takeShared() throws IOException {
        for (Path test : filesOf(Path.of("../shared/tests"))) {
            Files.copy(test, shared.resolve(test.getFileName()));
        }
    }

    void write(Path directory, String file, String text) throws IOException {
        Files.createDirectories(directory);
        Files.writeString(directory.resolve(file), text);
    }

    Path tests() {
        return project.resolve("src/test/java");
    }

    /** Runs commands as a shell does, the first one that fails ends them; their exit code. */
    int run(String commands, File output) throws IOException, InterruptedException {
        ProcessBuilder builder = new ProcessBuilder("sh", "-e", "-c", commands);
        builder.directory(project.toFile());
        builder.redirectErrorStream(true);
        builder.redirectOutput(output);
        return builder.start().waitFor();
    }

    File output() {
        return top.resolve("output").toFile();
    }

    void remove() throws IOException {
        List<Path> all = new ArrayList<>();
        try (Stream<Path> found = Files.walk(top)) {
            found.sorted(Comparator.reverseOrder()).forEach(all::add);
        }
        for (Path path : all) {
            Files.delete(path);
        }
    }

    static List<Path> filesOf(Path directory) throws IOException {
        List<Path> files = new ArrayList<>();
        try (Stream<Path> found = Files.list(directory)) {
            found.sorted().forEach(files::add);
        }
        return files;
    }
}
