import java.io.IOException;
import java.lang.reflect.Constructor;
import java.lang.reflect.Field;
import java.lang.reflect.Member;
import java.lang.reflect.Method;
import java.lang.reflect.Modifier;
import java.nio.file.Files;
import java.util.Arrays;
import java.util.TreeMap;
import java.util.TreeSet;
import java.util.regex.Matcher;
import java.util.regex.Pattern;
import java.util.stream.Collectors;

/**
 * "The public face": the class has the members that stand there, as they stand there, in the document's
 * headings and in the class's text alike, and no other public, protected or package-visible one.
 */
public final class FaceTest {
    private static final Pattern BLOCK = Pattern.compile("(?s)## The public face\\s+```java\\s(.*?)```");
    private static final Pattern METHOD = Pattern.compile("public (int|long) (\\w+)\\(([^)]*)\\);");
    private static final Pattern PROMISE = Pattern.compile("(?m)^## Promise (\\d+): (.*)\\s+`(.*)`: ");

    private final Due due = new Due("FaceTest");

    public static void main(String[] args) throws IOException {
        FaceTest test = new FaceTest();
        String document = Project.document(args);
        Matcher block = BLOCK.matcher(document);
        test.due.holds("the document has a face", block.find());
        test.lookAtClass();
        test.lookAtMethods(block.group(1));
        test.lookAtText(block.group(1), Files.readString(Project.main(args)));
        test.lookAtPromises(block.group(1), document);
        test.lookInside();
        test.due.end();
    }

    private void lookAtClass() {
        Class<?> face = TowardTheLoudest.class;
        due.holds("it is public and final, and that alone", face.getModifiers() == (Modifier.PUBLIC | Modifier.FINAL));
        due.holds("it is a class of its own", face.getSuperclass() == Object.class && face.getInterfaces().length == 0);
        due.holds("it has no type of others", face.getTypeParameters().length == 0 && !face.isRecord());
        due.holds("it stands in no package", face.getPackageName().isEmpty());
        Constructor<?>[] constructors = face.getDeclaredConstructors();
        due.is("how many constructors", constructors.length, 1);
        due.holds("the constructor is public, and takes nothing",
            Modifier.isPublic(constructors[0].getModifiers()) && constructors[0].getParameterCount() == 0);
    }

    private void lookAtMethods(String block) {
        TreeMap<String, String> told = new TreeMap<>();
        Matcher method = METHOD.matcher(block);
        while (method.find()) {
            String types = method.group(3).replaceAll("(\\w+) \\w+", "$1");
            told.put(method.group(2), method.group(1) + " (" + types + ")");
        }
        due.is("how many methods the document tells", told.size(), 41);
        TreeMap<String, String> had = new TreeMap<>();
        for (Method of : TowardTheLoudest.class.getDeclaredMethods()) {
            if (Modifier.isPrivate(of.getModifiers())) {
                due.holds("no private method bears a public one's name: " + of, !told.containsKey(of.getName()));
                continue;
            }
            due.holds("it is public, of an object, and of the class's own text: " + of,
                of.getModifiers() == Modifier.PUBLIC && !of.isSynthetic());
            String types = Arrays.stream(of.getParameterTypes()).map(Class::getName).collect(Collectors.joining(", "));
            due.holds("it stands there once: " + of, had.put(of.getName(), of.getReturnType() + " (" + types + ")") == null);
            due.is(of + ", how many exceptions it declares", of.getExceptionTypes().length, 0);
        }
        due.holds("the methods are those of the document: " + had + ", due are " + told, had.equals(told));
        TreeSet<String> all = new TreeSet<>();
        for (Method of : TowardTheLoudest.class.getMethods()) {
            if (of.getDeclaringClass() != Object.class) {
                all.add(of.getName());
            }
        }
        due.holds("no other one can be called", all.equals(told.keySet()));
    }

    /** The names of what they take stand in no compiled class, but in the text. */
    private void lookAtText(String block, String text) {
        for (String line : block.split("\n")) {
            String told = line.strip();
            if (told.startsWith("public") && told.endsWith(";")) {
                String head = told.substring(0, told.length() - 1) + " {";
                due.holds("the class's text has " + head, text.indexOf("    " + head) >= 0);
                due.holds("it has it once: " + head, text.indexOf(head) == text.lastIndexOf(head));
            }
        }
    }

    private void lookAtPromises(String block, String document) {
        Matcher promise = PROMISE.matcher(document);
        int number = 0;
        while (promise.find()) {
            number++;
            due.is("the number of a promise", Integer.parseInt(promise.group(1)), number);
            due.holds("promise " + number + " is of the face: " + promise.group(3),
                block.contains("    public " + promise.group(3) + ";"));
        }
        due.is("how many promises there are", number, 42);
    }

    private void lookInside() {
        for (Field field : TowardTheLoudest.class.getDeclaredFields()) {
            isPrivate(field);
        }
        for (Class<?> inside : TowardTheLoudest.class.getDeclaredClasses()) {
            int modifiers = inside.getModifiers();
            due.holds(inside + " is static, and private or package-visible", Modifier.isStatic(modifiers)
                && !Modifier.isPublic(modifiers) && !Modifier.isProtected(modifiers));
            for (Method method : inside.getDeclaredMethods()) {
                due.holds("none inside bears a name of the face: " + method,
                    Arrays.stream(TowardTheLoudest.class.getDeclaredMethods())
                        .noneMatch(of -> Modifier.isPublic(of.getModifiers()) && of.getName().equals(method.getName())));
            }
            for (Field field : inside.getDeclaredFields()) {
                isPrivate(field);
            }
        }
    }

    private void isPrivate(Member member) {
        due.holds(member + " is private", Modifier.isPrivate(member.getModifiers()));
    }
}
