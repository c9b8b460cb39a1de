import com.sun.source.tree.BinaryTree;
import com.sun.source.tree.ClassTree;
import com.sun.source.tree.CompilationUnitTree;
import com.sun.source.tree.ExpressionTree;
import com.sun.source.tree.ForLoopTree;
import com.sun.source.tree.LiteralTree;
import com.sun.source.tree.MethodInvocationTree;
import com.sun.source.tree.MethodTree;
import com.sun.source.tree.NewArrayTree;
import com.sun.source.tree.NewClassTree;
import com.sun.source.tree.ThrowTree;
import com.sun.source.tree.Tree;
import com.sun.source.tree.VariableTree;
import com.sun.source.util.JavacTask;
import com.sun.source.util.TreePath;
import com.sun.source.util.TreePathScanner;
import com.sun.source.util.Trees;
import java.io.File;
import java.io.IOException;
import java.lang.reflect.Method;
import java.util.HashMap;
import java.util.List;
import java.util.Map;
import java.util.Set;
import java.util.TreeSet;
import javax.lang.model.element.Element;
import javax.lang.model.element.ElementKind;
import javax.lang.model.element.Modifier;
import javax.lang.model.type.ArrayType;
import javax.lang.model.type.TypeKind;
import javax.lang.model.type.TypeMirror;
import javax.tools.JavaCompiler;
import javax.tools.StandardJavaFileManager;
import javax.tools.ToolProvider;

/**
 * The rules of LANGUAGE.md, looked for in the source as the compiler reads it. Where the class does
 * without something that a rule allows, the test allows less than the rule.
 */
public final class LanguageTest extends TreePathScanner<Void, Void> {
    private static final File SOURCE = new File("src/main/java/StreamWatch.java");
    private static final Set<String> EXCEPTIONS =
            Set.of("IllegalArgumentException", "IllegalStateException");
    private static final Set<String> LIBRARY = Set.of("java.lang.Math.min(int,int)",
            "java.lang.Math.max(int,int)", "java.lang.Object.Object()");
    /** The calls that may make objects, for each one makes something that is kept and counted. */
    private static final Set<String> MAKERS = Set.of("StreamWatch.rule(int,int)",
            "StreamWatch.option(int,long,int,int,int)");
    /** Rules 2, 3, 4, 6, 8, 9 and 10: what the class does without. */
    private static final Set<Tree.Kind> NOT_THERE = Set.of(Tree.Kind.IMPORT, Tree.Kind.PACKAGE,
            Tree.Kind.LAMBDA_EXPRESSION, Tree.Kind.MEMBER_REFERENCE, Tree.Kind.SYNCHRONIZED,
            Tree.Kind.ASSERT, Tree.Kind.TRY, Tree.Kind.CATCH, Tree.Kind.WHILE_LOOP,
            Tree.Kind.DO_WHILE_LOOP, Tree.Kind.ENHANCED_FOR_LOOP, Tree.Kind.INSTANCE_OF,
            Tree.Kind.DIVIDE, Tree.Kind.REMAINDER, Tree.Kind.DIVIDE_ASSIGNMENT,
            Tree.Kind.REMAINDER_ASSIGNMENT, Tree.Kind.ANNOTATION, Tree.Kind.INTERFACE,
            Tree.Kind.ENUM, Tree.Kind.RECORD, Tree.Kind.SWITCH_EXPRESSION);

    private final Trees trees;
    private final CompilationUnitTree unit;
    private final Map<String, Set<String>> calls = new HashMap<>();
    private int classes = 0;

    private LanguageTest(Trees trees, CompilationUnitTree unit) {
        this.trees = trees;
        this.unit = unit;
    }

    public static void main(String[] args) throws IOException {
        JavaCompiler compiler = ToolProvider.getSystemJavaCompiler();
        try (StandardJavaFileManager files = compiler.getStandardFileManager(null, null, null)) {
            JavacTask task = (JavacTask) compiler.getTask(null, files, null,
                    List.of("--release", "17", "-proc:none"), null, files.getJavaFileObjects(SOURCE));
            CompilationUnitTree unit = task.parse().iterator().next();
            task.analyze();
            LanguageTest test = new LanguageTest(Trees.instance(task), unit);
            test.scan(new TreePath(unit), null);
            test.depths();
        }
        Due.end();
    }

    private String where(Tree tree) {
        long start = trees.getSourcePositions().getStartPosition(unit, tree);
        return "line " + unit.getLineMap().getLineNumber(start) + ": ";
    }

    private long lines(Tree tree) {
        long start = trees.getSourcePositions().getStartPosition(unit, tree);
        long end = trees.getSourcePositions().getEndPosition(unit, tree);
        return unit.getLineMap().getLineNumber(end) - unit.getLineMap().getLineNumber(start) + 1;
    }

    private Element elementHere() {
        return trees.getElement(getCurrentPath());
    }

    private static String nameOf(Element method) {
        String name = method.toString();
        String owner = method.getEnclosingElement().toString();
        boolean isConstructor = method.getKind() == ElementKind.CONSTRUCTOR;
        return isConstructor ? owner + "." + name.substring(name.lastIndexOf('.') + 1)
                : owner + "." + name;
    }

    private static boolean isOwn(String name) {
        return name.startsWith("StreamWatch.") || name.equals("StreamWatch");
    }

    /** The method or constructor around this place; null in the initialiser of a field. */
    private MethodTree methodHere() {
        for (TreePath path = getCurrentPath(); path != null; path = path.getParentPath()) {
            if (path.getLeaf() instanceof MethodTree method) {
                return method;
            }
        }
        return null;
    }

    @Override
    public Void scan(Tree tree, Void nothing) {
        if (tree != null) {
            Due.is(where(tree) + tree.getKind() + " is there", NOT_THERE.contains(tree.getKind()), false);
        }
        return super.scan(tree, nothing);
    }

    /** Rules 1, 2 and 11. */
    @Override
    public Void visitClass(ClassTree tree, Void nothing) {
        classes++;
        Due.is("at most twelve classes", classes <= 12, true);
        boolean isOuter = classes == 1;
        Set<Modifier> marks = tree.getModifiers().getFlags();
        Due.is(where(tree) + "final", marks.contains(Modifier.FINAL), true);
        Due.is(where(tree) + "public", marks.contains(Modifier.PUBLIC), isOuter);
        Due.is(where(tree) + "static", marks.contains(Modifier.STATIC), !isOuter);
        int fields = 0;
        for (Tree member : tree.getMembers()) {
            boolean isField = member instanceof VariableTree field
                    && !field.getModifiers().getFlags().contains(Modifier.STATIC);
            fields += isField ? 1 : 0;
            Due.is(where(member) + "an initialiser block", member.getKind() == Tree.Kind.BLOCK, false);
        }
        Due.is(where(tree) + "at most twenty fields", fields <= 20, true);
        return super.visitClass(tree, nothing);
    }

    /** Rules 1 and 11. */
    @Override
    public Void visitMethod(MethodTree tree, Void nothing) {
        Due.is(where(tree) + "at most seven parameters", tree.getParameters().size() <= 7, true);
        Due.is(where(tree) + "at most sixty lines", lines(tree) <= 60, true);
        Element method = elementHere();
        calls.putIfAbsent(nameOf(method), new TreeSet<>());
        boolean isFace = method.getModifiers().contains(Modifier.PUBLIC);
        if (!isFace && !tree.getName().contentEquals("<init>")) {
            Due.is(where(tree) + "bears a name of the face", isNameOfFace(tree.getName().toString()),
                    false);
        }
        return super.visitMethod(tree, nothing);
    }

    private static boolean isNameOfFace(String name) {
        for (Method method : StreamWatch.class.getMethods()) {
            if (method.getDeclaringClass() == StreamWatch.class && method.getName().equals(name)) {
                return true;
            }
        }
        return false;
    }

    /** Rules 3 and 5. */
    @Override
    public Void visitVariable(VariableTree tree, Void nothing) {
        Element variable = elementHere();
        Set<Modifier> marks = variable.getModifiers();
        boolean isField = variable.getKind().isField();
        if (marks.contains(Modifier.STATIC)) {
            Due.is(where(tree) + "a constant", marks.contains(Modifier.FINAL)
                    && variable.asType().getKind() == TypeKind.INT, true);
        } else if (isField && variable.getEnclosingElement().toString().equals("StreamWatch")) {
            Due.is(where(tree) + "private", marks.contains(Modifier.PRIVATE), true);
        }
        Due.is(where(tree) + "the type of " + tree, isTypeAllowed(variable.asType()), true);
        return super.visitVariable(tree, nothing);
    }

    private static boolean isTypeAllowed(TypeMirror type) {
        if (type.getKind() == TypeKind.ARRAY) {
            TypeMirror element = ((ArrayType) type).getComponentType();
            return element.getKind() != TypeKind.ARRAY && isTypeAllowed(element);
        }
        boolean isPlain = type.getKind() == TypeKind.INT || type.getKind() == TypeKind.LONG
                || type.getKind() == TypeKind.BOOLEAN;
        return isPlain || isOwn(type.toString());
    }

    /** Rule 9: a counter that the head sets, compares and moves, and that nothing else moves. */
    @Override
    public Void visitForLoop(ForLoopTree tree, Void nothing) {
        boolean isPlain = tree.getInitializer().size() == 1 && tree.getUpdate().size() == 1
                && tree.getInitializer().get(0) instanceof VariableTree && tree.getCondition() != null;
        Due.is(where(tree) + "a loop with a counter", isPlain, true);
        if (isPlain) {
            String counter = ((VariableTree) tree.getInitializer().get(0)).getName().toString();
            String update = tree.getUpdate().get(0).getExpression().toString();
            boolean goesUp = update.equals(counter + "++") || update.startsWith(counter + " += ");
            boolean goesDown = update.equals(counter + "--");
            String condition = firstPart(tree.getCondition());
            boolean isBound = goesUp && condition.startsWith(counter + " <")
                    || goesDown && condition.startsWith(counter + " >");
            Due.is(where(tree) + "the counter goes to its bound", isBound, true);
            String body = tree.getStatement().toString();
            boolean isMoved = body.matches("(?s).*\\b" + counter
                    + "(\\+\\+|--| = | [-+*/&|^]= ).*");
            Due.is(where(tree) + "the counter is moved in the loop", isMoved, false);
        }
        return super.visitForLoop(tree, nothing);
    }

    /** Of conditions joined by && the first one. */
    private static String firstPart(ExpressionTree condition) {
        ExpressionTree first = condition;
        while (first.getKind() == Tree.Kind.CONDITIONAL_AND) {
            first = ((BinaryTree) first).getLeftOperand();
        }
        return first.toString();
    }

    /** Rule 6. */
    @Override
    public Void visitThrow(ThrowTree tree, Void nothing) {
        boolean isWritten = tree.getExpression() instanceof NewClassTree made
                && EXCEPTIONS.contains(made.getIdentifier().toString())
                && made.getArguments().size() == 1 && made.getArguments().get(0) instanceof LiteralTree;
        Due.is(where(tree) + "a written exception", isWritten, true);
        MethodTree method = methodHere();
        boolean isInFace = method != null && method.getReturnType() != null
                && method.getModifiers().getFlags().contains(Modifier.PUBLIC);
        Due.is(where(tree) + "thrown by a call of the face itself", isInFace, true);
        return super.visitThrow(tree, nothing);
    }

    /** Rules 4 and 12. */
    @Override
    public Void visitNewClass(NewClassTree tree, Void nothing) {
        Due.is(where(tree) + "an anonymous class", tree.getClassBody() != null, false);
        String made = nameOf(elementHere());
        MethodTree method = methodHere();
        boolean isException = EXCEPTIONS.contains(tree.getIdentifier().toString());
        Due.is(where(tree) + "of its own classes", isException || isOwn(made), true);
        if (method != null && !isException) {
            String here = nameOf(trees.getElement(trees.getPath(unit, method)));
            boolean isMaker = method.getReturnType() == null || MAKERS.contains(here);
            Due.is(where(tree) + "an object made by " + here, isMaker, true);
        }
        noteCall(made);
        return super.visitNewClass(tree, nothing);
    }

    /** Rule 12: rows are made with the objects that have them. */
    @Override
    public Void visitNewArray(NewArrayTree tree, Void nothing) {
        MethodTree method = methodHere();
        boolean isWithObject = method == null || method.getReturnType() == null;
        Due.is(where(tree) + "a row made with its object", isWithObject, true);
        return super.visitNewArray(tree, nothing);
    }

    /** Rule 4. */
    @Override
    public Void visitMethodInvocation(MethodInvocationTree tree, Void nothing) {
        String called = nameOf(elementHere());
        Due.is(where(tree) + called, isOwn(called) || LIBRARY.contains(called), true);
        noteCall(called);
        return super.visitMethodInvocation(tree, nothing);
    }

    /** Rule 10: texts are not joined by +. */
    @Override
    public Void visitBinary(BinaryTree tree, Void nothing) {
        TypeMirror type = trees.getTypeMirror(getCurrentPath());
        Due.is(where(tree) + "of " + type, isTypeAllowed(type), true);
        return super.visitBinary(tree, nothing);
    }

    private void noteCall(String called) {
        MethodTree method = methodHere();
        if (method != null) {
            String here = nameOf(trees.getElement(trees.getPath(unit, method)));
            calls.computeIfAbsent(here, name -> new TreeSet<>()).add(called);
        }
    }

    /** Rules 8 and 11: no recursion, and at most eight calls that stand open at once. */
    private void depths() {
        Due.is("the calls of watch are known", calls.containsKey("StreamWatch.watch()"), true);
        for (String name : calls.keySet()) {
            int depth = depthOf(name, 1);
            Due.is(name + " goes " + depth + " deep, which is too deep", depth > 8, false);
        }
    }

    private int depthOf(String name, int depth) {
        int deepest = depth;
        // Beyond this a method must have come to itself again.
        if (depth > 20) {
            return depth;
        }
        for (String called : calls.getOrDefault(name, Set.of())) {
            deepest = Math.max(deepest, depthOf(called, depth + 1));
        }
        return deepest;
    }
}
