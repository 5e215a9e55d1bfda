import java.io.IOException;
import java.nio.file.Files;
import java.nio.file.Path;
import java.util.ArrayList;
import java.util.List;
import java.util.concurrent.Callable;
import java.util.concurrent.ExecutorService;
import java.util.concurrent.Executors;
import java.util.concurrent.Future;

/**
 * That .ci/run ends with 0 just if the class and every test compile and every test passes. It is run
 * in copies of the project that hold one of its tests alone, each with something else that is wrong.
 */
public final class RunTest {
    private static final String COMMAND = "sh .ci/run";

    private interface Change {
        void in(Checkout copy) throws IOException;
    }

    private final Due due = new Due("RunTest");
    private final Path root;
    private final List<Callable<Void>> cases = new ArrayList<>();

    private RunTest(Path root) {
        this.root = root;
    }

    public static void main(String[] args) throws Exception {
        RunTest test = new RunTest(Project.root(args));
        test.due.holds(".ci/run is executable", Files.isExecutable(test.root.resolve(".ci/run")));
        test.passes();
        test.fails();
        test.goThrough();
        test.due.end();
    }

    /** Side by side, as each of them starts the compiler several times. */
    private void goThrough() throws Exception {
        ExecutorService workers = Executors.newFixedThreadPool(4);
        for (Future<Void> ended : workers.invokeAll(cases)) {
            ended.get();
        }
        workers.shutdown();
    }

    private void passes() {
        String passed = "2 passed, 0 failed";
        cases.add(() -> {
            try (Checkout copy = Checkout.withFewTests(root)) {
                String before = copy.files().toString();
                // What a folder for the time being still held would be printed behind the last line.
                String inFolder = "mkdir ../tmp && TMPDIR=\"$PWD/../tmp\" " + COMMAND + " && ls ../tmp";
                is("as it is", copy.run(inFolder), 0, passed);
                holds("it leaves nothing behind", copy.files().toString().equals(before));
            }
            return null;
        });
        cases.add(() -> {
            try (Checkout copy = Checkout.withFewTests(root)) {
                is("from another folder", Checkout.run("sh main/.ci/run", copy.main().getParent()), 0, passed);
            }
            return null;
        });
        cases.add(() -> {
            try (Checkout copy = Checkout.withFewTests(root)) {
                copy.write(copy.shared().resolve("tests/OneMore.java"), program("OneMore", ""));
                copy.write(copy.main().resolve("src/test/java/OneMoreTest.java"), program("OneMoreTest", ""));
                is("with two tests more", copy.run(COMMAND), 0, "4 passed, 0 failed");
            }
            return null;
        });
    }

    private void fails() {
        String exits = "System.exit(1);";
        String throwsOne = "throw new IllegalStateException(\"as it has to\");";
        wrong("a test of the project that fails", "main/src/test/java/WrongTest.java", program("WrongTest", exits));
        wrong("a test of the project that throws", "main/src/test/java/WrongTest.java",
            program("WrongTest", throwsOne));
        wrong("a test of the project that is no Java", "main/src/test/java/WrongTest.java",
            program("WrongTest", "is wrong"));
        wrong("a shared test that fails", "shared/tests/Wrong.java", program("Wrong", exits));
        wrong("a shared test that throws", "shared/tests/Wrong.java", program("Wrong", throwsOne));
        wrong("a shared test that is no Java", "shared/tests/Wrong.java", program("Wrong", "is wrong"));
        wrong("a class that is no Java", "main/src/main/java/TowardTheLoudest.java",
            "public final class TowardTheLoudest {");
        wrong("a class without its calls", "main/src/main/java/TowardTheLoudest.java",
            "public final class TowardTheLoudest { }");
        wrong("that no shared test is there", copy -> Files.delete(copy.shared().resolve("tests/SharedTest.java")));
    }

    private static String program(String name, String does) {
        return "public final class " + name + " {\n    public static void main(String[] args) {\n        "
            + "new TowardTheLoudest();\n        " + does + "\n    }\n}\n";
    }

    private void wrong(String what, String file, String text) {
        wrong(what, copy -> copy.write(copy.main().getParent().resolve(file), text));
    }

    private void wrong(String what, Change change) {
        cases.add(() -> {
            try (Checkout copy = Checkout.withFewTests(root)) {
                change.in(copy);
                holds(what + " is found out", copy.run(COMMAND).code() != 0);
            }
            return null;
        });
    }

    private synchronized void holds(String what, boolean isSo) {
        due.holds(what, isSo);
    }

    private synchronized void is(String what, Checkout.Ended ended, int code, String lastLine) {
        due.is(what + ", the exit code", ended.code(), code);
        due.holds(what + ", its last line is " + lastLine + ": " + ended.printed(), ended.lastLine().equals(lastLine));
    }
}
