import com.sun.source.tree.ArrayAccessTree;
import com.sun.source.tree.AssertTree;
import com.sun.source.tree.AssignmentTree;
import com.sun.source.tree.BinaryTree;
import com.sun.source.tree.CatchTree;
import com.sun.source.tree.ClassTree;
import com.sun.source.tree.CompilationUnitTree;
import com.sun.source.tree.CompoundAssignmentTree;
import com.sun.source.tree.DoWhileLoopTree;
import com.sun.source.tree.EnhancedForLoopTree;
import com.sun.source.tree.ExpressionTree;
import com.sun.source.tree.ForLoopTree;
import com.sun.source.tree.ImportTree;
import com.sun.source.tree.LambdaExpressionTree;
import com.sun.source.tree.LiteralTree;
import com.sun.source.tree.MemberReferenceTree;
import com.sun.source.tree.MethodInvocationTree;
import com.sun.source.tree.MethodTree;
import com.sun.source.tree.NewArrayTree;
import com.sun.source.tree.NewClassTree;
import com.sun.source.tree.SynchronizedTree;
import com.sun.source.tree.ThrowTree;
import com.sun.source.tree.Tree;
import com.sun.source.tree.TryTree;
import com.sun.source.tree.TypeCastTree;
import com.sun.source.tree.VariableTree;
import com.sun.source.tree.WhileLoopTree;
import com.sun.source.util.JavacTask;
import com.sun.source.util.TreePath;
import com.sun.source.util.TreePathScanner;
import com.sun.source.util.Trees;
import java.io.IOException;
import java.net.URI;
import java.nio.file.Files;
import java.nio.file.Path;
import java.util.ArrayList;
import java.util.HashSet;
import java.util.List;
import java.util.Map;
import java.util.Set;
import java.util.TreeMap;
import java.util.TreeSet;
import javax.lang.model.element.Element;
import javax.lang.model.element.ElementKind;
import javax.lang.model.element.ExecutableElement;
import javax.lang.model.element.Modifier;
import javax.lang.model.element.TypeElement;
import javax.lang.model.type.ArrayType;
import javax.lang.model.type.DeclaredType;
import javax.lang.model.type.TypeKind;
import javax.lang.model.type.TypeMirror;
import javax.tools.JavaCompiler;
import javax.tools.JavaFileObject;
import javax.tools.SimpleJavaFileObject;
import javax.tools.ToolProvider;

/**
 * The rules of LANGUAGE.md, looked up in the tree that the compiler makes of the source. The class needs less than the
 * rules leave, so this is narrower than they are: what it refuses may still be allowed, and has to be thought of then.
 */
public final class LanguageTest extends TreePathScanner<Void, Void> {
    private static final Check CHECK = new Check("LanguageTest");
    private static final int MOST_LINES = 60;
    private static final int MOST_PARAMETERS = 7;
    private static final int MOST_CLASSES = 12;
    private static final int MOST_FIELDS = 20;
    private static final int MOST_DEPTH = 8;

    private static final Set<String> LIBRARY = Set.of("Integer.bitCount(int)", "Integer.compare(int,int)",
            "Math.max(int,int)", "Math.min(int,int)", "Object.Object()");
    private static final Set<String> EXCEPTIONS = Set.of("IllegalStateException", "IllegalArgumentException",
            "IndexOutOfBoundsException", "ArithmeticException", "UnsupportedOperationException",
            "NoSuchElementException", "RuntimeException");

    /** Each of these was read: the index is looked at in the same method, against the same row. */
    private static final Set<String> LOOK_AT_INDEX = Set.of("MindFest.at", "MindFest.put", "MindFest.wipe",
            "Roll.playerAt", "Roll.contestAt", "Roll.boutAt", "Roll.addPlayer", "Roll.addContest", "Roll.addBout",
            "Contest.Contest", "Board.hasRow", "Board.hasFreeRow", "Board.keyOf", "Board.searchValue");

    /** Each of these was read: the divisor is looked at in the same method, or counts from 1 on. */
    private static final Set<String> LOOK_AT_DIVISOR = Set.of("MindFest.addMarks", "Player.chance",
            "Timer.spendSpans", "Table.splitAmong");

    private final Trees trees;
    private final CompilationUnitTree unit;
    private final Set<String> faults = new TreeSet<>();
    private final Map<String, Set<String>> calls = new TreeMap<>();
    private final Map<String, ExecutableElement> methods = new TreeMap<>();
    private final Set<String> classes = new TreeSet<>();

    private LanguageTest(JavacTask task) throws IOException {
        unit = task.parse().iterator().next();
        task.analyze();
        trees = Trees.instance(task);
    }

    public static void main(String[] args) throws IOException {
        String source = Files.readString(Path.of("src/main/java/MindFest.java"));
        CHECK.is("faults of MindFest", faultsOf(source).toString(), "[]");
        BrokenRules.look(CHECK);
        CHECK.close();
    }

    /** The numbers of the rules that a source breaks, and where. */
    static Set<String> faultsOf(String source) throws IOException {
        JavaCompiler compiler = ToolProvider.getSystemJavaCompiler();
        JavaFileObject file = new SimpleJavaFileObject(URI.create("string:///MindFest.java"),
                JavaFileObject.Kind.SOURCE) {
            @Override
            public CharSequence getCharContent(boolean ignoreErrors) {
                return source;
            }
        };
        StringBuilder errors = new StringBuilder();
        JavacTask task = (JavacTask) compiler.getTask(null, null, d -> errors.append(d).append('\n'),
                List.of("-proc:none"), null, List.of(file));
        LanguageTest look = new LanguageTest(task);
        if (errors.length() > 0) {
            throw new IllegalArgumentException(errors.toString());
        }
        look.scan(look.unit, null);
        look.endings(source);
        return look.faults;
    }

    private void endings(String source) {
        ask(1, "a package line", unit.getPackageName() == null);
        ask(1, "one class in the file", unit.getTypeDecls().size() == 1);
        ask(11, "classes: " + classes.size(), classes.size() <= MOST_CLASSES);
        for (int i = 0; i < source.length(); i++) {
            ask(4, "a sign beyond 127", source.charAt(i) <= 127);
        }
        for (String method : methods.keySet()) {
            Set<String> open = new HashSet<>();
            boolean isFace = methods.get(method).getModifiers().contains(Modifier.PUBLIC);
            int depth = isFace ? depthOf(method, open) : 0;
            ask(11, method + " goes deep: " + depth, depth <= MOST_DEPTH);
            ask(8, method + " comes back to itself by others", !comesBack(method));
        }
    }

    private void ask(int rule, String what, boolean isKept) {
        if (!isKept) {
            faults.add(rule + ": " + what);
        }
    }

    // ---- who calls whom

    /** How many calls stand open at once, calls of itself aside. */
    private int depthOf(String method, Set<String> open) {
        if (!open.add(method)) {
            return 0;
        }
        int deepest = 0;
        for (String next : calls.getOrDefault(method, Set.of())) {
            deepest = Math.max(deepest, depthOf(next, open));
        }
        open.remove(method);
        return deepest + 1;
    }

    private boolean comesBack(String method) {
        Set<String> seen = new HashSet<>();
        List<String> next = new ArrayList<>(calls.getOrDefault(method, Set.of()));
        next.remove(method);
        while (!next.isEmpty()) {
            String one = next.remove(next.size() - 1);
            if (one.equals(method)) {
                return true;
            }
            if (seen.add(one)) {
                next.addAll(calls.getOrDefault(one, Set.of()));
            }
        }
        return false;
    }

    private static String nameOf(Element method) {
        TypeElement owner = (TypeElement) method.getEnclosingElement();
        String name = method.getKind() == ElementKind.CONSTRUCTOR ? owner.getSimpleName().toString()
                : method.getSimpleName().toString();
        return owner.getSimpleName() + "." + name;
    }

    private static String signatureOf(ExecutableElement method) {
        List<String> types = new ArrayList<>();
        method.getParameters().forEach(parameter -> types.add(parameter.asType().toString()));
        return nameOf(method) + "(" + String.join(",", types) + ")";
    }

    private boolean isOwn(Element element) {
        Element owner = element;
        while (owner.getEnclosingElement() != null && owner.getEnclosingElement().getKind() != ElementKind.PACKAGE) {
            owner = owner.getEnclosingElement();
        }
        return owner.getSimpleName().contentEquals("MindFest");
    }

    private MethodTree methodHere() {
        for (TreePath path = getCurrentPath(); path != null; path = path.getParentPath()) {
            if (path.getLeaf() instanceof MethodTree) {
                return (MethodTree) path.getLeaf();
            }
        }
        return null;
    }

    /** The method that the tree stands in, a class's name alone for what stands in its fields. */
    private String here() {
        TreePath path = getCurrentPath();
        while (!(path.getLeaf() instanceof MethodTree) && !(path.getLeaf() instanceof ClassTree)) {
            path = path.getParentPath();
        }
        Element element = trees.getElement(path);
        return path.getLeaf() instanceof MethodTree ? nameOf(element) : element.getSimpleName().toString();
    }

    private TypeMirror typeOf(Tree tree) {
        return trees.getTypeMirror(new TreePath(getCurrentPath(), tree));
    }

    private Element elementOf(Tree tree) {
        return trees.getElement(new TreePath(getCurrentPath(), tree));
    }

    private void noteCall(Element called) {
        if (methodHere() != null) {
            calls.computeIfAbsent(here(), name -> new TreeSet<>()).add(nameOf(called));
        }
    }

    // ---- classes, members and types

    @Override
    public Void visitClass(ClassTree tree, Void none) {
        TypeElement type = (TypeElement) trees.getElement(getCurrentPath());
        classes.add(type.getSimpleName().toString());
        boolean isOuter = type.getEnclosingElement().getKind() == ElementKind.PACKAGE;
        ask(1, "public and final: " + type, !isOuter
                || type.getModifiers().containsAll(Set.of(Modifier.PUBLIC, Modifier.FINAL)));
        ask(2, "a class of its own kind: " + type, type.getKind() == ElementKind.CLASS
                && (isOuter || type.getModifiers().contains(Modifier.STATIC) && methodHere() == null));
        ask(2, "a public class inside: " + type, isOuter || !type.getModifiers().contains(Modifier.PUBLIC));
        int fields = 0;
        for (Tree member : tree.getMembers()) {
            boolean isField = member instanceof VariableTree;
            ask(5, "a static block in " + type, member.getKind() != Tree.Kind.BLOCK);
            fields += isField && !((VariableTree) member).getModifiers().getFlags().contains(Modifier.STATIC) ? 1 : 0;
        }
        ask(11, "fields of " + type + ": " + fields, fields <= MOST_FIELDS);
        return super.visitClass(tree, none);
    }

    @Override
    public Void visitImport(ImportTree tree, Void none) {
        ask(4, "an import: " + tree, tree.toString().trim().equals("import java.util.NoSuchElementException;"));
        return super.visitImport(tree, none);
    }

    @Override
    public Void visitMethod(MethodTree tree, Void none) {
        ExecutableElement method = (ExecutableElement) trees.getElement(getCurrentPath());
        String name = nameOf(method);
        boolean isMade = tree.getName().contentEquals("<init>");
        ask(0, "methods of one name, which are not told apart here: " + name, methods.put(name, method) == null);
        ask(11, "parameters of " + name, tree.getParameters().size() <= MOST_PARAMETERS);
        ask(6, "equals, hashCode, toString: " + name,
                !Set.of("equals", "hashCode", "toString").contains(tree.getName().toString()));
        long begin = trees.getSourcePositions().getStartPosition(unit, tree);
        long end = trees.getSourcePositions().getEndPosition(unit, tree);
        if (end > begin) {
            long lines = unit.getLineMap().getLineNumber(end) - unit.getLineMap().getLineNumber(begin) + 1;
            ask(11, "lines of " + name + ": " + lines, lines <= MOST_LINES);
        }
        if (!isMade) {
            lookAtType(name, method.getReturnType());
        }
        return super.visitMethod(tree, none);
    }

    @Override
    public Void visitVariable(VariableTree tree, Void none) {
        Element variable = trees.getElement(getCurrentPath());
        lookAtType(here() + " " + tree.getName(), variable.asType());
        boolean isField = variable.getKind() == ElementKind.FIELD;
        if (isField && variable.getModifiers().contains(Modifier.STATIC)) {
            ask(5, "static, not final: " + tree.getName(), variable.getModifiers().contains(Modifier.FINAL));
            ExpressionTree value = tree.getInitializer();
            boolean isWritten = value != null && (variable.asType().getKind() != TypeKind.ARRAY
                    || value instanceof NewArrayTree && ((NewArrayTree) value).getInitializers() != null);
            ask(5, "static, not written out: " + tree.getName(), isWritten);
        }
        return super.visitVariable(tree, none);
    }

    /** Numbers, chars, booleans, own classes, and rows of one dimension of these. */
    private void lookAtType(String where, TypeMirror type) {
        if (type.getKind() == TypeKind.ARRAY) {
            TypeMirror inner = ((ArrayType) type).getComponentType();
            ask(3, "a row of rows: " + where, inner.getKind() != TypeKind.ARRAY);
            lookAtType(where, inner);
        } else if (type.getKind() == TypeKind.DECLARED) {
            ask(3, "another class: " + where, isOwn(((DeclaredType) type).asElement()));
        } else {
            ask(3, "another type: " + where, type.getKind().isPrimitive() || type.getKind() == TypeKind.VOID);
        }
    }

    // ---- what is called, made and thrown

    @Override
    public Void visitMethodInvocation(MethodInvocationTree tree, Void none) {
        ExecutableElement called = (ExecutableElement) trees.getElement(getCurrentPath());
        if (isOwn(called)) {
            noteCall(called);
            ask(8, "calls itself: " + here(), !nameOf(called).equals(here()) || isGuarded());
        } else {
            ask(4, "not of the library: " + signatureOf(called), LIBRARY.contains(signatureOf(called)));
        }
        for (ExpressionTree argument : tree.getArguments()) {
            ask(5, "a constant row is handed on by " + here(), !isConstantRow(argument));
        }
        return super.visitMethodInvocation(tree, none);
    }

    /** One that calls itself is private and static, and its last argument is one more than its own depth. */
    private boolean isGuarded() {
        MethodTree method = methodHere();
        MethodInvocationTree call = (MethodInvocationTree) getCurrentPath().getLeaf();
        Set<Modifier> flags = method.getModifiers().getFlags();
        int count = method.getParameters().size();
        return flags.contains(Modifier.PRIVATE) && flags.contains(Modifier.STATIC) && count > 0
                && method.getParameters().get(count - 1).getName().contentEquals("depth")
                && call.getArguments().get(count - 1).toString().equals("depth + 1")
                && method.getBody().toString().matches("(?s).*(if \\(|\\|\\| )depth > .*");
    }

    private boolean isConstantRow(ExpressionTree tree) {
        Element element = elementOf(tree);
        return element != null && element.getKind() == ElementKind.FIELD && isOwn(element)
                && element.getModifiers().contains(Modifier.STATIC) && element.asType().getKind() == TypeKind.ARRAY;
    }

    @Override
    public Void visitNewClass(NewClassTree tree, Void none) {
        Element made = trees.getElement(getCurrentPath());
        boolean isThrown = getCurrentPath().getParentPath().getLeaf() instanceof ThrowTree;
        ask(6, "made and not thrown, or of another kind: " + tree, isThrown || isOwn(made));
        ask(2, "a class without a name: " + here(), tree.getClassBody() == null);
        ask(12, "made by a loop: " + here(), isThrown || !isInLoop());
        if (isOwn(made)) {
            noteCall(made);
        }
        return super.visitNewClass(tree, none);
    }

    private boolean isInLoop() {
        for (TreePath path = getCurrentPath(); !(path.getLeaf() instanceof ClassTree); path = path.getParentPath()) {
            if (path.getLeaf() instanceof ForLoopTree) {
                return true;
            }
        }
        return false;
    }

    @Override
    public Void visitNewArray(NewArrayTree tree, Void none) {
        ask(12, "a row is made by a call: " + here(), methodHere() == null);
        return super.visitNewArray(tree, none);
    }

    @Override
    public Void visitThrow(ThrowTree tree, Void none) {
        boolean isGood = false;
        if (tree.getExpression() instanceof NewClassTree) {
            NewClassTree made = (NewClassTree) tree.getExpression();
            isGood = EXCEPTIONS.contains(made.getIdentifier().toString()) && made.getArguments().size() == 1
                    && made.getArguments().get(0).getKind() == Tree.Kind.STRING_LITERAL;
        }
        MethodTree method = methodHere();
        ask(6, "throws another thing: " + here(), isGood);
        ask(6, "a throw in a constructor: " + here(), !method.getName().contentEquals("<init>"));
        return super.visitThrow(tree, none);
    }

    // ---- what a call could throw by itself

    @Override
    public Void visitArrayAccess(ArrayAccessTree tree, Void none) {
        ask(7, "an index that nobody looked at: " + here(), LOOK_AT_INDEX.contains(here()));
        return super.visitArrayAccess(tree, none);
    }

    @Override
    public Void visitBinary(BinaryTree tree, Void none) {
        TypeMirror left = typeOf(tree.getLeftOperand());
        TypeMirror right = typeOf(tree.getRightOperand());
        boolean isObject = left.getKind() == TypeKind.DECLARED || right.getKind() == TypeKind.DECLARED;
        switch (tree.getKind()) {
            case DIVIDE:
            case REMAINDER:
                boolean isWhole = left.getKind() != TypeKind.DOUBLE && left.getKind() != TypeKind.FLOAT;
                ask(7, "a divisor that nobody looked at: " + here(), !isWhole
                        || isNumber(tree.getRightOperand()) || LOOK_AT_DIVISOR.contains(here()));
                break;
            case PLUS:
                ask(10, "texts are joined by +: " + here(), !isObject);
                break;
            case EQUAL_TO:
            case NOT_EQUAL_TO:
                ask(6, "two that are looked at as one: " + here(), !isObject
                        || isOwnOrNull(left) && isOwnOrNull(right));
                break;
            default:
                break;
        }
        return super.visitBinary(tree, none);
    }

    private static boolean isNumber(ExpressionTree tree) {
        Object value = tree instanceof LiteralTree ? ((LiteralTree) tree).getValue() : null;
        return value instanceof Integer && (Integer) value != 0;
    }

    private boolean isOwnOrNull(TypeMirror type) {
        return type.getKind() == TypeKind.NULL
                || type.getKind() == TypeKind.DECLARED && isOwn(((DeclaredType) type).asElement());
    }

    @Override
    public Void visitCompoundAssignment(CompoundAssignmentTree tree, Void none) {
        ask(7, "a divisor that nobody looked at: " + here(), tree.getKind() != Tree.Kind.DIVIDE_ASSIGNMENT
                && tree.getKind() != Tree.Kind.REMAINDER_ASSIGNMENT);
        ask(3, "a text that grows: " + here(), typeOf(tree.getVariable()).getKind().isPrimitive());
        ask(5, "a constant row is changed: " + here(), !isPlaceOfConstant(tree.getVariable()));
        return super.visitCompoundAssignment(tree, none);
    }

    @Override
    public Void visitAssignment(AssignmentTree tree, Void none) {
        ask(5, "a constant row is changed: " + here(), !isPlaceOfConstant(tree.getVariable()));
        return super.visitAssignment(tree, none);
    }

    private boolean isPlaceOfConstant(ExpressionTree tree) {
        return tree instanceof ArrayAccessTree && isConstantRow(((ArrayAccessTree) tree).getExpression());
    }

    @Override
    public Void visitTypeCast(TypeCastTree tree, Void none) {
        ask(7, "a cast: " + here(), typeOf(tree.getType()).getKind().isPrimitive());
        return super.visitTypeCast(tree, none);
    }

    // ---- what has an end, and what is not there at all

    @Override
    public Void visitForLoop(ForLoopTree tree, Void none) {
        boolean isCounted = tree.getInitializer().size() == 1 && tree.getInitializer().get(0) instanceof VariableTree
                && tree.getUpdate().size() == 1 && tree.getCondition() != null;
        ask(9, "a loop without a counter: " + here(), isCounted);
        if (isCounted) {
            String counter = ((VariableTree) tree.getInitializer().get(0)).getName().toString();
            String step = tree.getUpdate().get(0).toString();
            String bound = tree.getCondition().toString();
            boolean isUp = step.equals(counter + "++;") && bound.matches("(?s).*\\b" + counter + " <=? .*");
            boolean isDown = step.equals(counter + "--;") && bound.matches("(?s).*\\b" + counter + " >=? .*");
            ask(9, "a loop without a bound: " + here() + ": " + bound, isUp || isDown);
            ask(9, "a loop of or: " + here(), !bound.contains("||"));
        }
        return super.visitForLoop(tree, none);
    }

    @Override
    public Void visitEnhancedForLoop(EnhancedForLoopTree tree, Void none) {
        ask(12, "a loop over a list: " + here(), typeOf(tree.getExpression()).getKind() == TypeKind.ARRAY);
        return super.visitEnhancedForLoop(tree, none);
    }

    @Override
    public Void visitWhileLoop(WhileLoopTree tree, Void none) {
        ask(9, "while: " + here(), false);
        return super.visitWhileLoop(tree, none);
    }

    @Override
    public Void visitDoWhileLoop(DoWhileLoopTree tree, Void none) {
        ask(9, "do: " + here(), false);
        return super.visitDoWhileLoop(tree, none);
    }

    @Override
    public Void visitLambdaExpression(LambdaExpressionTree tree, Void none) {
        ask(2, "a lambda: " + here(), false);
        return super.visitLambdaExpression(tree, none);
    }

    @Override
    public Void visitMemberReference(MemberReferenceTree tree, Void none) {
        ask(2, "a method reference: " + here(), false);
        return super.visitMemberReference(tree, none);
    }

    @Override
    public Void visitTry(TryTree tree, Void none) {
        ask(6, "try: " + here(), false);
        return super.visitTry(tree, none);
    }

    @Override
    public Void visitCatch(CatchTree tree, Void none) {
        ask(6, "catch: " + here(), false);
        return super.visitCatch(tree, none);
    }

    @Override
    public Void visitSynchronized(SynchronizedTree tree, Void none) {
        ask(6, "synchronized: " + here(), false);
        return super.visitSynchronized(tree, none);
    }

    @Override
    public Void visitAssert(AssertTree tree, Void none) {
        ask(6, "assert: " + here(), false);
        return super.visitAssert(tree, none);
    }
}
