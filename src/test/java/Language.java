import com.sun.source.tree.AssertTree;
import com.sun.source.tree.BinaryTree;
import com.sun.source.tree.BlockTree;
import com.sun.source.tree.ClassTree;
import com.sun.source.tree.CompilationUnitTree;
import com.sun.source.tree.CompoundAssignmentTree;
import com.sun.source.tree.DoWhileLoopTree;
import com.sun.source.tree.ExpressionTree;
import com.sun.source.tree.ForLoopTree;
import com.sun.source.tree.ImportTree;
import com.sun.source.tree.InstanceOfTree;
import com.sun.source.tree.LambdaExpressionTree;
import com.sun.source.tree.LiteralTree;
import com.sun.source.tree.MemberReferenceTree;
import com.sun.source.tree.MethodInvocationTree;
import com.sun.source.tree.MethodTree;
import com.sun.source.tree.NewClassTree;
import com.sun.source.tree.SynchronizedTree;
import com.sun.source.tree.ThrowTree;
import com.sun.source.tree.Tree;
import com.sun.source.tree.TryTree;
import com.sun.source.tree.TypeCastTree;
import com.sun.source.tree.VariableTree;
import com.sun.source.tree.WhileLoopTree;
import com.sun.source.util.JavacTask;
import com.sun.source.util.TreePath;
import com.sun.source.util.TreePathScanner;
import com.sun.source.util.Trees;
import java.io.IOException;
import java.net.URI;
import java.util.ArrayList;
import java.util.List;
import java.util.Map;
import java.util.TreeMap;
import java.util.TreeSet;
import javax.lang.model.element.Element;
import javax.lang.model.element.Modifier;
import javax.lang.model.type.TypeKind;
import javax.lang.model.type.TypeMirror;
import javax.tools.JavaCompiler;
import javax.tools.JavaFileObject;
import javax.tools.SimpleJavaFileObject;
import javax.tools.ToolProvider;

/**
 * The rules of LANGUAGE.md that can be read off a source of one class, as the compiler understands it.
 *
 * <p>What the class under test does without is refused as a whole (try, recursion, classes inside,
 * lists, texts that are built), though the rules would let some of it stand: who comes to need it
 * says here what the rule asks of it.
 */
final class Language extends TreePathScanner<Void, Void> {
    private static final List<String> EXCEPTIONS = List.of(
        "IllegalStateException", "IllegalArgumentException", "IndexOutOfBoundsException", "ArithmeticException",
        "UnsupportedOperationException", "java.util.NoSuchElementException", "RuntimeException");
    private static final Map<String, List<String>> LIBRARY = Map.of(
        "java.lang.Math", List.of("max", "min", "abs", "floorDiv", "floorMod"),
        "java.lang.Integer", List.of("compare", "max", "min", "bitCount"),
        "java.lang.Long", List.of("compare", "max", "min", "bitCount"),
        "java.lang.System", List.of("arraycopy"),
        "java.util.Arrays", List.of("copyOf", "copyOfRange", "fill"));
    private static final List<String> OWN_NAMES = List.of("equals", "hashCode", "toString");
    private static final int MOST_FIELDS = 20;
    private static final int MOST_PARAMETERS = 7;
    private static final int MOST_METHOD_LINES = 60;
    private static final int MOST_CALLS_DEEP = 8;

    private final Trees trees;
    private final CompilationUnitTree unit;
    private final List<String> faults = new ArrayList<>();
    private final Map<String, TreeSet<String>> calls = new TreeMap<>();
    private int fields;
    private String method = "";

    private Language(Trees trees, CompilationUnitTree unit) {
        this.trees = trees;
        this.unit = unit;
    }

    /** One text for each fault that is found, which begins with the number of its rule. */
    static List<String> faults(String name, String source) throws IOException {
        JavaCompiler compiler = ToolProvider.getSystemJavaCompiler();
        JavaFileObject file = new SimpleJavaFileObject(URI.create("string:///" + name + ".java"), JavaFileObject.Kind.SOURCE) {
            @Override
            public CharSequence getCharContent(boolean ignoreEncodingErrors) {
                return source;
            }
        };
        JavacTask task = (JavacTask) compiler.getTask(null, null, null, List.of("--release", "17", "-proc:none"), null, List.of(file));
        CompilationUnitTree unit = task.parse().iterator().next();
        task.analyze();
        Language language = new Language(Trees.instance(task), unit);
        language.scan(unit, null);
        language.lookAtWhole(source);
        return language.faults;
    }

    private void fault(int rule, String what) {
        faults.add("rule " + rule + ": " + what + (method.isEmpty() ? "" : " in " + method));
    }

    private void faultIf(boolean wrong, int rule, String what) {
        if (wrong) {
            fault(rule, what);
        }
    }

    private void lookAtWhole(String source) {
        method = "";
        faultIf(fields > MOST_FIELDS, 11, fields + " fields");
        faultIf(unit.getPackageName() != null, 1, "a package line");
        for (char sign : source.toCharArray()) {
            if (sign > 126 || sign < ' ' && sign != '\n') {
                fault(4, "the sign " + (int) sign);
            }
        }
        for (String name : calls.keySet()) {
            int deep = callsDeep(name, new ArrayList<>());
            faultIf(deep > MOST_CALLS_DEEP, deep == Integer.MAX_VALUE ? 8 : 11, "calls that go too deep from " + name);
        }
    }

    /** How many calls stand open at once below this one, itself counted; without an end if it calls itself. */
    private int callsDeep(String name, List<String> open) {
        if (open.contains(name)) {
            return Integer.MAX_VALUE;
        }
        open.add(name);
        int below = 0;
        for (String called : calls.getOrDefault(name, new TreeSet<>())) {
            below = Math.max(below, callsDeep(called, open));
        }
        open.remove(name);
        return below == Integer.MAX_VALUE ? below : below + 1;
    }

    // ---- classes, methods, fields

    @Override
    public Void visitImport(ImportTree node, Void nothing) {
        fault(4, "import of " + node.getQualifiedIdentifier());
        return null;
    }

    @Override
    public Void visitClass(ClassTree node, Void nothing) {
        faultIf(getCurrentPath().getParentPath().getLeaf() != unit, 2, "a class inside");
        for (Tree member : node.getMembers()) {
            faultIf(member instanceof BlockTree, 5, "a block of the class");
        }
        return super.visitClass(node, nothing);
    }

    @Override
    public Void visitMethod(MethodTree node, Void nothing) {
        method = node.getName().toString();
        calls.putIfAbsent(method, new TreeSet<>());
        faultIf(node.getParameters().size() > MOST_PARAMETERS, 11, "too many parameters");
        faultIf(lines(node) > MOST_METHOD_LINES, 11, "too many lines");
        faultIf(OWN_NAMES.contains(method), 6, "a method of this name");
        faultIf(node.getModifiers().getFlags().contains(Modifier.SYNCHRONIZED), 6, "synchronized");
        super.visitMethod(node, nothing);
        method = "";
        return null;
    }

    private long lines(Tree node) {
        long from = trees.getSourcePositions().getStartPosition(unit, node);
        long to = trees.getSourcePositions().getEndPosition(unit, node);
        return unit.getLineMap().getLineNumber(to) - unit.getLineMap().getLineNumber(from) + 1;
    }

    @Override
    public Void visitVariable(VariableTree node, Void nothing) {
        Element element = trees.getElement(getCurrentPath());
        boolean isField = element.getKind().isField();
        boolean isStatic = element.getModifiers().contains(Modifier.STATIC);
        TypeMirror type = element.asType();
        faultIf(!isOfRule3(type), 3, "the type " + type);
        faultIf(isField && isStatic && !element.getModifiers().contains(Modifier.FINAL), 5, "a static field that changes");
        if (isField && !isStatic) {
            fields++;
        }
        return super.visitVariable(node, nothing);
    }

    private static boolean isOfRule3(TypeMirror type) {
        if (type.getKind() == TypeKind.ARRAY) {
            return List.of("int[]", "long[]", "short[]", "byte[]", "char[]", "boolean[]", "int[][]", "long[][]").contains(type.toString());
        }
        return type.getKind().isPrimitive() || type.toString().equals("java.lang.String");
    }

    // ---- what is called and made

    @Override
    public Void visitMethodInvocation(MethodInvocationTree node, Void nothing) {
        Element called = trees.getElement(new TreePath(getCurrentPath(), node.getMethodSelect()));
        String owner = called.getEnclosingElement().toString();
        String name = called.getSimpleName().toString();
        if (isOwn(called)) {
            calls.computeIfAbsent(method, key -> new TreeSet<>()).add(name);
            faultIf(method.equals("<init>") && !name.equals("<init>"), 12, "a call of " + name);
        } else if (!name.equals("<init>")) {
            faultIf(!LIBRARY.getOrDefault(owner, List.of()).contains(name), 4, "a call of " + owner + "." + name);
        }
        return super.visitMethodInvocation(node, nothing);
    }

    private boolean isOwn(Element called) {
        return trees.getElement(new TreePath(new TreePath(unit), unit.getTypeDecls().get(0))).equals(called.getEnclosingElement());
    }

    @Override
    public Void visitNewClass(NewClassTree node, Void nothing) {
        boolean thrown = getCurrentPath().getParentPath().getLeaf() instanceof ThrowTree;
        faultIf(!thrown, 12, "an object that is made: " + node.getIdentifier());
        return super.visitNewClass(node, nothing);
    }

    @Override
    public Void visitTypeCast(TypeCastTree node, Void nothing) {
        faultIf(!typeOf(node.getType()).getKind().isPrimitive(), 6, "a cast of " + node);
        return super.visitTypeCast(node, nothing);
    }

    private TypeMirror typeOf(Tree node) {
        return trees.getTypeMirror(new TreePath(getCurrentPath(), node));
    }

    // ---- exceptions

    @Override
    public Void visitThrow(ThrowTree node, Void nothing) {
        faultIf(method.equals("<init>"), 6, "a throw");
        faultIf(!isNewOfRule6(node.getExpression()), 6, "a throw of " + node.getExpression());
        return super.visitThrow(node, nothing);
    }

    private static boolean isNewOfRule6(ExpressionTree thrown) {
        if (!(thrown instanceof NewClassTree)) {
            return false;
        }
        NewClassTree made = (NewClassTree) thrown;
        List<? extends ExpressionTree> arguments = made.getArguments();
        boolean written = arguments.isEmpty() || arguments.size() == 1 && arguments.get(0) instanceof LiteralTree;
        return written && made.getClassBody() == null && EXCEPTIONS.contains(made.getIdentifier().toString());
    }

    @Override
    public Void visitTry(TryTree node, Void nothing) {
        fault(6, "a try");
        return super.visitTry(node, nothing);
    }

    @Override
    public Void visitSynchronized(SynchronizedTree node, Void nothing) {
        fault(6, "synchronized");
        return super.visitSynchronized(node, nothing);
    }

    @Override
    public Void visitAssert(AssertTree node, Void nothing) {
        fault(6, "an assert");
        return super.visitAssert(node, nothing);
    }

    @Override
    public Void visitInstanceOf(InstanceOfTree node, Void nothing) {
        fault(6, "an instanceof");
        return super.visitInstanceOf(node, nothing);
    }

    // ---- loops and expressions

    @Override
    public Void visitLambdaExpression(LambdaExpressionTree node, Void nothing) {
        fault(2, "a lambda");
        return super.visitLambdaExpression(node, nothing);
    }

    @Override
    public Void visitMemberReference(MemberReferenceTree node, Void nothing) {
        fault(2, "a method reference");
        return super.visitMemberReference(node, nothing);
    }

    @Override
    public Void visitForLoop(ForLoopTree node, Void nothing) {
        lookAtEnd(node.getCondition());
        return super.visitForLoop(node, nothing);
    }

    @Override
    public Void visitWhileLoop(WhileLoopTree node, Void nothing) {
        lookAtEnd(node.getCondition());
        return super.visitWhileLoop(node, nothing);
    }

    @Override
    public Void visitDoWhileLoop(DoWhileLoopTree node, Void nothing) {
        lookAtEnd(node.getCondition());
        return super.visitDoWhileLoop(node, nothing);
    }

    private void lookAtEnd(ExpressionTree condition) {
        // An end is a comparison with a bound, so a loop without any has none.
        faultIf(condition == null || !condition.toString().matches(".*(<|>|!=).*"), 9, "a loop without an end");
    }

    @Override
    public Void visitBinary(BinaryTree node, Void nothing) {
        boolean compares = node.getKind() == Tree.Kind.EQUAL_TO || node.getKind() == Tree.Kind.NOT_EQUAL_TO;
        boolean ofTexts = isText(node.getLeftOperand()) || isText(node.getRightOperand());
        faultIf(compares && ofTexts, 6, "texts that are compared by " + node);
        faultIf(node.getKind() == Tree.Kind.PLUS && ofTexts, 10, "a text that is joined by +");
        return super.visitBinary(node, nothing);
    }

    @Override
    public Void visitCompoundAssignment(CompoundAssignmentTree node, Void nothing) {
        faultIf(isText(node.getVariable()), 10, "a text that is joined by +=");
        return super.visitCompoundAssignment(node, nothing);
    }

    private boolean isText(ExpressionTree node) {
        return typeOf(node).toString().equals("java.lang.String");
    }
}
