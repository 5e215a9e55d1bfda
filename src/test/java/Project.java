import java.io.IOException;
import java.nio.file.Files;
import java.nio.file.Path;

/** Where the project and what stands beside it are, known from the class's file. */
final class Project {
    private Project() {
    }

    /** The file is a test's first argument; without one the test runs in the project's own folder. */
    static Path main(String[] args) {
        return Path.of(args.length > 0 ? args[0] : "src/main/java/TowardTheLoudest.java").toAbsolutePath();
    }

    static Path root(String[] args) {
        return main(args).getParent().getParent().getParent().getParent().normalize();
    }

    static Path shared(String[] args) {
        return root(args).resolveSibling("shared");
    }

    static String document(String[] args) throws IOException {
        return Files.readString(shared(args).resolve("DOC.md"));
    }
}
