import com.sun.source.tree.BinaryTree;
import com.sun.source.tree.BlockTree;
import com.sun.source.tree.ClassTree;
import com.sun.source.tree.CompilationUnitTree;
import com.sun.source.tree.DoWhileLoopTree;
import com.sun.source.tree.ExpressionTree;
import com.sun.source.tree.ForLoopTree;
import com.sun.source.tree.IdentifierTree;
import com.sun.source.tree.LiteralTree;
import com.sun.source.tree.MemberSelectTree;
import com.sun.source.tree.MethodInvocationTree;
import com.sun.source.tree.MethodTree;
import com.sun.source.tree.NewArrayTree;
import com.sun.source.tree.NewClassTree;
import com.sun.source.tree.Tree;
import com.sun.source.tree.VariableTree;
import com.sun.source.util.JavacTask;
import com.sun.source.util.SourcePositions;
import com.sun.source.util.TreeScanner;
import com.sun.source.util.Trees;
import java.io.IOException;
import java.nio.file.Files;
import java.nio.file.Path;
import java.util.EnumSet;
import java.util.HashMap;
import java.util.HashSet;
import java.util.List;
import java.util.Map;
import java.util.Set;
import java.util.TreeSet;
import javax.lang.model.element.Modifier;
import javax.tools.JavaCompiler;
import javax.tools.StandardJavaFileManager;
import javax.tools.ToolProvider;

/**
 * What of ../shared/LANGUAGE.md can be seen from the class's text, whose file is the argument. It
 * is stricter where the class needs less: no texts, casts or while loops, no library but the few
 * functions of LIBRARY, and objects made in fields' initialisers and constructors alone.
 */
public final class LanguageTest {
    private static final Set<String> FACE = Set.of("feed", "bay", "shoreOf", "isleOf", "shore", "powders",
        "hushes", "isle", "hours", "back", "noise", "loudest", "behind", "shoreBehind", "first", "whoFirst",
        "most", "farthest", "hush", "fewest", "fromWhere", "powderWanted", "newShore", "which", "treaty",
        "thunder", "nearest", "shared", "loudHour", "mean", "gap", "spent", "swap", "ring", "row", "judge",
        "clear", "lots", "image", "restore", "count");
    private static final Set<String> LIBRARY = Set.of("System.arraycopy", "Math.max", "Math.min", "Math.abs",
        "Integer.bitCount");
    private static final Set<Tree.Kind> FORBIDDEN = EnumSet.of(Tree.Kind.THROW, Tree.Kind.TRY,
        Tree.Kind.SYNCHRONIZED, Tree.Kind.ASSERT, Tree.Kind.LAMBDA_EXPRESSION, Tree.Kind.MEMBER_REFERENCE,
        Tree.Kind.IMPORT, Tree.Kind.PACKAGE, Tree.Kind.TYPE_CAST, Tree.Kind.WHILE_LOOP, Tree.Kind.ANNOTATION,
        Tree.Kind.DIVIDE_ASSIGNMENT, Tree.Kind.REMAINDER_ASSIGNMENT, Tree.Kind.INSTANCE_OF,
        Tree.Kind.ENHANCED_FOR_LOOP, Tree.Kind.LABELED_STATEMENT);
    private static final int DEEPEST = 8;

    private final Due due = new Due("LanguageTest");
    private final Map<String, Set<String>> calls = new HashMap<>();
    private final Set<String> types = new HashSet<>(Set.of("int", "long", "boolean", "int[]"));
    private CompilationUnitTree file;
    private SourcePositions positions;

    public static void main(String[] args) throws IOException {
        LanguageTest test = new LanguageTest();
        Path path = Path.of(args.length > 0 ? args[0] : "src/main/java/TowardTheLoudest.java");
        test.parse(path);
        test.due.is("classes in the file", test.file.getTypeDecls().size(), 1);
        ClassTree face = (ClassTree) test.file.getTypeDecls().get(0);
        test.lookAtFace(face);
        test.lookAtClasses(face);
        test.lookAtDepth();
        for (char sign : Files.readString(path).toCharArray()) {
            test.due.holds("the sign " + (int) sign + " may stand there", sign < 127);
        }
        test.due.end();
    }

    private void parse(Path path) throws IOException {
        JavaCompiler compiler = ToolProvider.getSystemJavaCompiler();
        try (StandardJavaFileManager files = compiler.getStandardFileManager(null, null, null)) {
            JavacTask task = (JavacTask) compiler.getTask(null, files, null, null, null,
                files.getJavaFileObjects(path));
            positions = Trees.instance(task).getSourcePositions();
            file = task.parse().iterator().next();
        }
    }

    private static Set<Modifier> modifiers(Tree tree) {
        if (tree instanceof ClassTree) {
            return ((ClassTree) tree).getModifiers().getFlags();
        }
        return tree instanceof MethodTree ? ((MethodTree) tree).getModifiers().getFlags()
            : ((VariableTree) tree).getModifiers().getFlags();
    }

    private void lookAtFace(ClassTree face) {
        due.holds("the class is public and final",
            modifiers(face).equals(EnumSet.of(Modifier.PUBLIC, Modifier.FINAL)));
        Set<String> open = new TreeSet<>();
        for (Tree member : face.getMembers()) {
            if (member instanceof MethodTree && modifiers(member).contains(Modifier.PUBLIC)) {
                String name = ((MethodTree) member).getName().toString();
                due.holds(name + " is of the face once", open.add(name));
            } else {
                due.holds("it is private: " + member, modifiers(member).contains(Modifier.PRIVATE));
            }
        }
        open.remove("<init>");
        due.holds("the face is the document's: " + open, open.equals(FACE));
    }

    private void lookAtClasses(ClassTree face) {
        int classes = 1;
        for (Tree member : face.getMembers()) {
            if (member instanceof ClassTree) {
                classes++;
                due.holds("a class inside is static", modifiers(member).contains(Modifier.STATIC));
                lookAtMembers((ClassTree) member, true);
            }
        }
        lookAtMembers(face, false);
        due.holds("there are some twelve classes: " + classes, classes <= 12);
        lookAtTypes(face);
        new TreeScanner<Void, Void>() {
            @Override
            public Void scan(Tree tree, Void nothing) {
                if (tree != null) {
                    due.holds("this may stand there: " + tree, !FORBIDDEN.contains(tree.getKind()));
                }
                return super.scan(tree, nothing);
            }

            @Override
            public Void visitLiteral(LiteralTree literal, Void nothing) {
                due.holds("a constant is a number, a sign, true or false: " + literal,
                    literal.getKind() != Tree.Kind.STRING_LITERAL && literal.getKind() != Tree.Kind.NULL_LITERAL);
                return null;
            }
        }.scan(file, null);
    }

    /** Numbers, rows of them, and the classes inside, alone or in a row. */
    private void lookAtTypes(ClassTree face) {
        for (Tree member : face.getMembers()) {
            if (member instanceof ClassTree) {
                types.add(((ClassTree) member).getSimpleName().toString());
                types.add(((ClassTree) member).getSimpleName() + "[]");
            }
        }
        new TreeScanner<Void, Void>() {
            @Override
            public Void visitVariable(VariableTree variable, Void nothing) {
                due.holds("it is of a type that may be: " + variable, types.contains(variable.getType().toString()));
                return super.visitVariable(variable, nothing);
            }

            @Override
            public Void visitMethod(MethodTree method, Void nothing) {
                Tree answer = method.getReturnType();
                due.holds("it answers a type that may be: " + method, answer == null
                    || answer.toString().equals("void") || types.contains(answer.toString()));
                return super.visitMethod(method, nothing);
            }

            @Override
            public Void visitClass(ClassTree type, Void nothing) {
                due.holds("it stands under no other one: " + type.getSimpleName(),
                    type.getExtendsClause() == null && type.getImplementsClause().isEmpty());
                return super.visitClass(type, nothing);
            }
        }.scan(face, null);
    }

    private void lookAtMembers(ClassTree type, boolean inside) {
        int fields = 0;
        for (Tree member : type.getMembers()) {
            if (member instanceof VariableTree) {
                VariableTree field = (VariableTree) member;
                boolean isStatic = modifiers(field).contains(Modifier.STATIC);
                fields += isStatic ? 0 : 1;
                due.holds("a static field is a constant: " + field, !isStatic
                    || modifiers(field).contains(Modifier.FINAL) && field.getType().toString().matches("int|long"));
            } else if (member instanceof MethodTree) {
                lookAtMethod((MethodTree) member, inside);
            }
            due.holds("no static block", !(member instanceof BlockTree));
        }
        due.holds("some twenty fields: " + fields, fields <= 20);
    }

    private void lookAtMethod(MethodTree method, boolean inside) {
        String name = method.getName().toString();
        boolean isPrivate = modifiers(method).contains(Modifier.PRIVATE);
        due.holds(name + " does not bear the name of a public one", !(inside || isPrivate) || !FACE.contains(name));
        due.holds(name + " has 7 parameters at most", method.getParameters().size() <= 7);
        long lines = line(positions.getEndPosition(file, method)) - line(positions.getStartPosition(file, method)) + 1;
        due.holds(name + " has some 60 lines: " + lines, lines <= 60);
        Set<String> called = calls.computeIfAbsent(key(name, method.getParameters()), key -> new HashSet<>());
        new TreeScanner<Void, Void>() {
            @Override
            public Void visitMethodInvocation(MethodInvocationTree call, Void nothing) {
                called.add(calledBy(call));
                return super.visitMethodInvocation(call, nothing);
            }

            @Override
            public Void visitNewClass(NewClassTree made, Void nothing) {
                due.holds("an object is made in a constructor: " + made, name.equals("<init>"));
                return super.visitNewClass(made, nothing);
            }

            @Override
            public Void visitNewArray(NewArrayTree made, Void nothing) {
                due.holds("a row is made in a constructor: " + made, name.equals("<init>"));
                return super.visitNewArray(made, nothing);
            }

            @Override
            public Void visitClass(ClassTree local, Void nothing) {
                due.holds("no local class", false);
                return null;
            }

            @Override
            public Void visitForLoop(ForLoopTree loop, Void nothing) {
                due.holds("its end can be seen: " + loop, hasBound(loop.getCondition()) && loop.getUpdate().size() == 1);
                return super.visitForLoop(loop, nothing);
            }

            @Override
            public Void visitDoWhileLoop(DoWhileLoopTree loop, Void nothing) {
                due.holds("its end can be seen: " + loop, hasBound(loop.getCondition()));
                return super.visitDoWhileLoop(loop, nothing);
            }

            @Override
            public Void visitBinary(BinaryTree of, Void nothing) {
                if (of.getKind() == Tree.Kind.DIVIDE || of.getKind() == Tree.Kind.REMAINDER) {
                    due.holds("its divisor is looked at: " + of, isLookedAt(of.getRightOperand().toString(), method));
                }
                return super.visitBinary(of, nothing);
            }
        }.scan(method.getBody(), null);
    }

    private static boolean hasBound(Tree condition) {
        return condition != null && condition.toString().matches("(?s).* <=? .*");
    }

    /** A divisor is a constant, or a name that its method tells from 0. */
    private static boolean isLookedAt(String divisor, MethodTree method) {
        boolean isConstant = divisor.matches("[1-9][0-9]*|[A-Z_]+|\\([A-Z_]+ \\+ 1\\)");
        String text = method.getBody().toString();
        return isConstant || text.contains(divisor + " < 1") || text.contains(divisor + " != 0")
            || text.contains(divisor + " = Math.max(1, ");
    }

    private long line(long position) {
        return file.getLineMap().getLineNumber(position);
    }

    private static String key(String name, List<?> arguments) {
        return name + "/" + arguments.size();
    }

    private String calledBy(MethodInvocationTree call) {
        ExpressionTree select = call.getMethodSelect();
        if (select instanceof IdentifierTree) {
            return key(select.toString(), call.getArguments());
        }
        MemberSelectTree member = (MemberSelectTree) select;
        String owner = member.getExpression().toString();
        if (Character.isUpperCase(owner.charAt(0))) {
            due.holds("the library has it: " + select, LIBRARY.contains(select.toString()));
        }
        return key(member.getIdentifier().toString(), call.getArguments());
    }

    private void lookAtDepth() {
        for (String name : FACE) {
            for (String method : calls.keySet()) {
                if (method.startsWith(name + "/")) {
                    int depth = depth(method, new HashSet<>());
                    due.holds(method + " goes at most " + DEEPEST + " deep: " + depth, depth <= DEEPEST);
                }
            }
        }
    }

    /** How many of the class's own methods stand open at once; methods of one name count as one. */
    private int depth(String method, Set<String> open) {
        if (!calls.containsKey(method)) {
            return 0;
        }
        due.holds(method + " does not call itself", open.add(method));
        int deepest = 0;
        for (String called : calls.get(method)) {
            if (!called.equals("super/0") && !open.contains(called)) {
                deepest = Math.max(deepest, depth(called, open));
            } else {
                due.holds(method + " does not call " + called, called.equals("super/0"));
            }
        }
        open.remove(method);
        return deepest + 1;
    }
}
