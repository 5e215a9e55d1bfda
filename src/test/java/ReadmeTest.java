import java.io.IOException;
import java.lang.reflect.Method;
import java.lang.reflect.Modifier;
import java.net.URL;
import java.net.URLClassLoader;
import java.nio.file.Files;
import java.nio.file.Path;
import java.util.ArrayList;
import java.util.List;
import java.util.TreeSet;
import java.util.function.BiConsumer;
import java.util.regex.Matcher;
import java.util.regex.Pattern;
import java.util.stream.Stream;
import javax.tools.ToolProvider;

/**
 * That README.md says what is so: the calls on it answer what stands behind them, each method of the
 * face is among them, its commands run as they stand there, and its table tells of every test.
 */
public final class ReadmeTest {
    private static final Pattern BLOCK = Pattern.compile("(?ms)^```(\\w+)\n(.*?)^```$");
    private static final Pattern CALL =
        Pattern.compile("^\\s*(bay\\.(\\w+)\\(.*\\));\\s+// (-?\\d+): .*$");
    private static final Pattern ROW = Pattern.compile("(?m)^\\| (\\w+Test) \\|");
    private static final String OF_ALL_TESTS = "sh .ci/run";

    private final Due due = new Due("ReadmeTest");
    private final Path root;
    private final String page;

    private ReadmeTest(Path root) throws IOException {
        this.root = root;
        page = Files.readString(root.resolve("README.md"));
    }

    public static void main(String[] args) throws Exception {
        ReadmeTest test = new ReadmeTest(Project.root(args));
        test.calls();
        test.face();
        test.commands();
        test.table();
        test.due.end();
    }

    private List<String> blocks(String language) {
        List<String> blocks = new ArrayList<>();
        Matcher block = BLOCK.matcher(page);
        while (block.find()) {
            if (block.group(1).equals(language)) {
                blocks.add(block.group(2));
            }
        }
        return blocks;
    }

    /** The page's Java as it stands there, but that each call tells what it answered. */
    private String program() {
        StringBuilder program = new StringBuilder("public final class ReadmeCalls implements "
            + "java.util.function.Consumer<java.util.function.BiConsumer<String, long[]>> {\n"
            + "    public void accept(java.util.function.BiConsumer<String, long[]> due) {\n");
        for (String block : blocks("java")) {
            program.append("        {\n");
            for (String line : block.split("\n")) {
                Matcher call = CALL.matcher(line);
                program.append(!call.matches() ? line : "due.accept(\"" + call.group(1) + "\", new long[] {"
                    + call.group(1) + ", " + call.group(3) + "L});").append('\n');
            }
            program.append("        }\n");
        }
        return program.append("    }\n}\n").toString();
    }

    @SuppressWarnings("unchecked")
    private void calls() throws Exception {
        Path folder = Files.createTempDirectory("readme");
        Path file = folder.resolve("ReadmeCalls.java");
        Path made = folder.resolve("ReadmeCalls.class");
        Files.writeString(file, program());
        int code = ToolProvider.getSystemJavaCompiler().run(null, null, null, "-d", folder.toString(),
            "-cp", System.getProperty("java.class.path"), file.toString());
        due.is("compiling the page's Java", code, 0);
        if (code == 0) {
            BiConsumer<String, long[]> answers = (call, numbers) -> due.is(call, numbers[0], numbers[1]);
            try (URLClassLoader loader = new URLClassLoader(new URL[] {folder.toUri().toURL()})) {
                Object calls = loader.loadClass("ReadmeCalls").getConstructor().newInstance();
                ((java.util.function.Consumer<BiConsumer<String, long[]>>) calls).accept(answers);
            }
            Files.delete(made);
        }
        Files.delete(file);
        Files.delete(folder);
    }

    /** Of the lines that call something, feed() alone tells no answer, as it stands in a loop. */
    private void face() {
        TreeSet<String> called = new TreeSet<>();
        for (String block : blocks("java")) {
            for (String line : block.split("\n")) {
                Matcher call = CALL.matcher(line);
                boolean tells = call.matches();
                due.holds("it tells what is answered: " + line,
                    tells || !line.contains("bay.") || line.equals("    bay.feed(letter);"));
                called.add(tells ? call.group(2) : line.contains("bay.feed(") ? "feed" : "");
            }
        }
        for (Method method : TowardTheLoudest.class.getDeclaredMethods()) {
            if (Modifier.isPublic(method.getModifiers())) {
                due.holds("the page calls " + method.getName(), called.contains(method.getName()));
            }
        }
    }

    private void commands() throws IOException, InterruptedException {
        List<String> commands = new ArrayList<>();
        for (String block : blocks("sh")) {
            commands.addAll(List.of(block.split("\n")));
        }
        due.holds("the page tells how to run all tests", commands.contains(OF_ALL_TESTS));
        try (Checkout whole = Checkout.whole(root); Checkout few = Checkout.withFewTests(root)) {
            for (String command : commands) {
                Checkout.Ended ended = (command.equals(OF_ALL_TESTS) ? few : whole).run(command);
                due.is(command + ", which printed " + ended.printed(), ended.code(), 0);
                if (command.equals(OF_ALL_TESTS)) {
                    due.holds("the last line tells how many passed and failed: " + ended.lastLine(),
                        ended.lastLine().equals("2 passed, 0 failed"));
                }
            }
        }
    }

    private void table() throws IOException {
        TreeSet<String> told = new TreeSet<>();
        Matcher row = ROW.matcher(page);
        while (row.find()) {
            due.holds(row.group(1) + " stands in the table once", told.add(row.group(1)));
        }
        TreeSet<String> tests = new TreeSet<>();
        try (Stream<Path> files = Files.list(root.resolve("src/test/java"))) {
            files.map(file -> file.getFileName().toString()).filter(name -> name.endsWith("Test.java"))
                .forEach(name -> tests.add(name.substring(0, name.length() - ".java".length())));
        }
        due.holds("the table tells of every test: " + told + ", " + tests, told.equals(tests));
    }
}
