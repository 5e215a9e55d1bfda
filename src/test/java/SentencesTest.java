import java.io.IOException;
import java.nio.file.Files;
import java.nio.file.Path;
import java.util.ArrayList;
import java.util.List;
import java.util.regex.Matcher;
import java.util.regex.Pattern;
import java.util.stream.Stream;

/**
 * That no sentence of the document is without a test: the words that the tests look at, as they
 * tell Due.says(), stand in ../shared/DOC.md, and of what it says from its first line to its last none
 * are left out. The class's file is the argument, from which the way to the rest is known.
 */
public final class SentencesTest {
    private static final Pattern SAYS =
        Pattern.compile("\\.says\\(((?:\\s*\\+?\\s*\"(?:[^\"\\\\]|\\\\.)*\")+)\\)");
    private static final Pattern TEXT = Pattern.compile("\"((?:[^\"\\\\]|\\\\.)*)\"");

    public static void main(String[] args) throws IOException {
        Due due = new Due("SentencesTest");
        String document = inOneLine(Project.document(args));
        boolean[] lookedAt = new boolean[document.length()];
        for (String words : told(Project.root(args).resolve("src/test/java"))) {
            int at = document.indexOf(words);
            due.holds("the document says: " + words, at >= 0);
            due.holds("the document says it once: " + words, at == document.lastIndexOf(words));
            for (int i = 0; at >= 0 && i < words.length(); i++) {
                lookedAt[at + i] = true;
            }
        }
        for (String left : leftOut(document, lookedAt)) {
            due.holds("a test looks at what the document says: " + left, false);
        }
        due.end();
    }

    /** The document without its headings, and without the face, which FaceTest reads there itself. */
    private static String inOneLine(String text) {
        String told = text.replaceAll("(?s)```java.*?```", "");
        told = told.replaceAll("(?m)^(#|```).*$", "").replaceAll("==== I[IV]*\\.", "");
        return told.replaceAll("\\s+", " ").trim();
    }

    private static List<String> told(Path tests) throws IOException {
        List<Path> files = new ArrayList<>();
        try (Stream<Path> all = Files.list(tests)) {
            all.filter(file -> file.toString().endsWith(".java")).sorted().forEach(files::add);
        }
        List<String> told = new ArrayList<>();
        for (Path file : files) {
            Matcher says = SAYS.matcher(Files.readString(file));
            while (says.find()) {
                StringBuilder words = new StringBuilder();
                Matcher text = TEXT.matcher(says.group(1));
                while (text.find()) {
                    words.append(text.group(1).replace("\\\"", "\""));
                }
                told.add(words.toString());
            }
        }
        return told;
    }

    private static List<String> leftOut(String document, boolean[] lookedAt) {
        List<String> left = new ArrayList<>();
        StringBuilder words = new StringBuilder();
        for (int i = 0; i <= document.length(); i++) {
            if (i < document.length() && !lookedAt[i]) {
                words.append(document.charAt(i));
            } else {
                if (!words.toString().isBlank()) {
                    left.add(words.toString());
                }
                words.setLength(0);
            }
        }
        return left;
    }
}
