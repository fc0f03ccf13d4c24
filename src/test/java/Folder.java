import java.io.IOException;
import java.nio.file.Files;
import java.nio.file.Path;
import java.util.Comparator;
import java.util.List;
import java.util.concurrent.TimeUnit;
import java.util.stream.Stream;

/** A project folder of its own, with ../shared beside it, in which commands can be run. */
final class Folder {
    private static final int MOST_MINUTES = 5;

    /** How a command ended, and what it printed. */
    record Ran(int code, String printed) {
    }

    private final Path top;

    Folder() throws IOException {
        top = Files.createTempDirectory("tariffdesk");
        Files.createDirectories(project());
    }

    Path project() {
        return top.resolve("main");
    }

    void put(String name, String text) throws IOException {
        Path file = project().resolve(name).normalize();
        Files.createDirectories(file.getParent());
        Files.writeString(file, text);
    }

    /** The same file as in this project. */
    void copy(String name) throws IOException {
        put(name, Files.readString(Path.of(name)));
    }

    void copyAll(String folder) throws IOException {
        for (String name : names(folder)) {
            copy(folder + "/" + name);
        }
    }

    void drop(String name) throws IOException {
        Files.deleteIfExists(project().resolve(name).normalize());
    }

    Ran run(String command) throws IOException, InterruptedException {
        Path printed = top.resolve("printed");
        Process process = new ProcessBuilder("bash", "-e", "-c", command).directory(project().toFile())
                .redirectErrorStream(true).redirectOutput(printed.toFile()).start();
        if (!process.waitFor(MOST_MINUTES, TimeUnit.MINUTES)) {
            process.destroyForcibly();
            return new Ran(-1, "it did not end");
        }
        return new Ran(process.exitValue(), Files.readString(printed));
    }

    void delete() throws IOException {
        try (Stream<Path> all = Files.walk(top)) {
            for (Path path : all.sorted(Comparator.reverseOrder()).toList()) {
                Files.delete(path);
            }
        }
    }

    static List<String> names(String folder) throws IOException {
        try (Stream<Path> all = Files.list(Path.of(folder))) {
            return all.filter(Files::isRegularFile).map(path -> path.getFileName().toString()).sorted().toList();
        }
    }
}
