import java.io.IOException;
import java.nio.charset.StandardCharsets;
import java.nio.file.Files;
import java.nio.file.Path;
import java.util.Comparator;
import java.util.List;
import java.util.TreeSet;
import java.util.function.Predicate;
import java.util.stream.Stream;

/** A copy of the project, with ../shared beside it, in a folder for the time being. */
final class Checkout implements AutoCloseable {
    /** What a command ended with, and what it printed. */
    record Ended(int code, String printed) {
        String lastLine() {
            String[] lines = printed.strip().split("\n");
            return lines[lines.length - 1].strip();
        }
    }

    private static final List<String> FEW_TESTS = List.of("Due.java", "NewObjectTest.java");
    private static final String SHARED_TEST = "/** Stands for the tests that are shared. */\n"
        + "public final class SharedTest {\n    public static void main(String[] args) {\n"
        + "        System.exit(new TowardTheLoudest().isleOf(0) == 15 ? 0 : 1);\n    }\n}\n";

    private final Path top;

    private Checkout(Path top) {
        this.top = top;
    }

    static Checkout whole(Path root) throws IOException {
        Checkout copy = of(root, file -> true);
        copyAll(root.resolveSibling("shared"), copy.shared(), file -> true);
        return copy;
    }

    /** With one test of the project's and one shared one, as .ci/run would else run itself without an end. */
    static Checkout withFewTests(Path root) throws IOException {
        Checkout copy = of(root, file -> FEW_TESTS.contains(file.getFileName().toString()));
        copy.write(copy.shared().resolve("tests/SharedTest.java"), SHARED_TEST);
        return copy;
    }

    private static Checkout of(Path root, Predicate<Path> isTaken) throws IOException {
        Checkout copy = new Checkout(Files.createTempDirectory("checkout"));
        copyAll(root.resolve("src/main"), copy.main().resolve("src/main"), file -> true);
        copyAll(root.resolve("src/test"), copy.main().resolve("src/test"), isTaken);
        copyAll(root.resolve(".ci"), copy.main().resolve(".ci"), file -> true);
        return copy;
    }

    /** Byte by byte, as what stands in ../shared may not be written to, and a copy's rights are alike. */
    private static void copyAll(Path from, Path to, Predicate<Path> isTaken) throws IOException {
        for (Path file : under(from)) {
            if (isTaken.test(file)) {
                Path copy = to.resolve(from.relativize(file).toString());
                Files.createDirectories(copy.getParent());
                Files.write(copy, Files.readAllBytes(file));
            }
        }
    }

    private static List<Path> under(Path folder) throws IOException {
        try (Stream<Path> all = Files.walk(folder)) {
            return all.filter(Files::isRegularFile).sorted().toList();
        }
    }

    Path main() {
        return top.resolve("main");
    }

    Path shared() {
        return top.resolve("shared");
    }

    void write(Path file, String text) throws IOException {
        Files.createDirectories(file.getParent());
        Files.writeString(file, text);
    }

    /** The project's files, by name and what stands in them. */
    TreeSet<String> files() throws IOException {
        TreeSet<String> files = new TreeSet<>();
        for (Path file : under(main())) {
            files.add(main().relativize(file) + ": " + new String(Files.readAllBytes(file), StandardCharsets.ISO_8859_1));
        }
        return files;
    }

    Ended run(String command) throws IOException, InterruptedException {
        return run(command, main());
    }

    static Ended run(String command, Path folder) throws IOException, InterruptedException {
        Process process = new ProcessBuilder("sh", "-c", command).directory(folder.toFile())
            .redirectErrorStream(true).start();
        process.getOutputStream().close();
        String printed = new String(process.getInputStream().readAllBytes(), StandardCharsets.UTF_8);
        return new Ended(process.waitFor(), printed);
    }

    @Override
    public void close() throws IOException {
        try (Stream<Path> all = Files.walk(top)) {
            for (Path path : all.sorted(Comparator.reverseOrder()).toList()) {
                Files.delete(path);
            }
        }
    }
}
