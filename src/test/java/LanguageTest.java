import com.sun.source.tree.AssertTree;
import com.sun.source.tree.BinaryTree;
import com.sun.source.tree.BlockTree;
import com.sun.source.tree.ClassTree;
import com.sun.source.tree.CompilationUnitTree;
import com.sun.source.tree.LambdaExpressionTree;
import com.sun.source.tree.LiteralTree;
import com.sun.source.tree.MemberReferenceTree;
import com.sun.source.tree.MethodInvocationTree;
import com.sun.source.tree.MethodTree;
import com.sun.source.tree.NewClassTree;
import com.sun.source.tree.SynchronizedTree;
import com.sun.source.tree.ThrowTree;
import com.sun.source.tree.Tree;
import com.sun.source.tree.TryTree;
import com.sun.source.tree.TypeCastTree;
import com.sun.source.tree.VariableTree;
import com.sun.source.util.JavacTask;
import com.sun.source.util.TreePath;
import com.sun.source.util.TreePathScanner;
import com.sun.source.util.Trees;
import java.io.IOException;
import java.nio.file.Path;
import java.util.List;
import java.util.Map;
import java.util.Set;
import java.util.TreeMap;
import java.util.TreeSet;
import javax.lang.model.element.Element;
import javax.lang.model.element.ElementKind;
import javax.lang.model.element.Modifier;
import javax.lang.model.type.TypeKind;
import javax.lang.model.type.TypeMirror;
import javax.tools.JavaCompiler;
import javax.tools.StandardJavaFileManager;
import javax.tools.ToolProvider;

/** The rules of ../shared/LANGUAGE.md that can be seen in the tree of the file; the face itself is FaceTest's. */
public final class LanguageTest extends TreePathScanner<Void, Void> {
    private static final Set<String> EXCEPTIONS = Set.of("IllegalStateException", "IllegalArgumentException", "IndexOutOfBoundsException",
        "ArithmeticException", "UnsupportedOperationException", "NoSuchElementException", "RuntimeException");
    /** What the class uses of the library that rule 4 allows. */
    private static final Set<String> LIBRARY = Set.of("String.length", "String.charAt", "Math.max", "Math.min", "Integer.bitCount",
        "System.arraycopy");
    private static final String NUMBER = "(int|long|short|byte|char|boolean|double|float)";
    private static final String OWN = "NapkinSyntax(\\.\\w+)?";
    private static final String TYPES = NUMBER + "(\\[\\]){0,2}|java\\.lang\\.String|" + OWN + "(\\[\\])?";
    private static final String CONSTANTS = "(int|long|char)(\\[\\])?|boolean|byte\\[\\]|java\\.lang\\.String|NapkinSyntax\\.Command(\\[\\])?";
    private static final int MOST_LINES = 60;
    private static final int MOST_PARAMETERS = 7;
    private static final int MOST_DEEP = 8;
    private static final int MOST_CLASSES = 12;
    private static final int MOST_FIELDS = 20;

    private final Trees trees;
    private final CompilationUnitTree unit;
    private final Map<String, Set<String>> calls = new TreeMap<>();
    private final Map<String, Integer> fields = new TreeMap<>();
    private final Set<String> found = new TreeSet<>();
    private String method = "";
    private boolean isInConstructor = false;

    private LanguageTest(Trees trees, CompilationUnitTree unit) {
        this.trees = trees;
        this.unit = unit;
    }

    public static void main(String[] args) throws IOException {
        JavaCompiler compiler = ToolProvider.getSystemJavaCompiler();
        try (StandardJavaFileManager files = compiler.getStandardFileManager(null, null, null)) {
            JavacTask task = (JavacTask) compiler.getTask(null, files, null, List.of("-proc:none"), null, files.getJavaFileObjects(Path.of(args[0])));
            CompilationUnitTree unit = task.parse().iterator().next();
            task.analyze();
            LanguageTest test = new LanguageTest(Trees.instance(task), unit);
            test.scan(unit, null);
            test.close();
        }
    }

    private void close() {
        Due.is("what is against the rules", "[]", () -> found);
        Due.is("rule 1: package", null, unit::getPackageName);
        Due.is("rule 4: imports", "import java.util.NoSuchElementException;", () -> unit.getImports().toString().trim());
        Due.is("rule 11: at most " + MOST_CLASSES + " classes, not " + fields.size(), true, () -> fields.size() <= MOST_CLASSES);
        Due.is("rule 11: at most " + MOST_FIELDS + " fields in " + fields, true, () -> fields.values().stream().allMatch(n -> n <= MOST_FIELDS));
        for (String from : calls.keySet()) {
            int deep = deep(from, 1);
            Due.is("rule 11: " + from + " goes at most " + MOST_DEEP + " deep, not " + deep, true, () -> deep <= MOST_DEEP);
        }
        Due.close("LanguageTest");
    }

    /** How deep the calls from a method go, itself counted; a recursion goes deeper than allowed. */
    private int deep(String from, int level) {
        int deepest = level;
        for (String to : level > MOST_DEEP ? Set.<String>of() : calls.getOrDefault(from, Set.of())) {
            deepest = Math.max(deepest, deep(to, level + 1));
        }
        return deepest;
    }

    private void against(String rule, Tree tree) {
        long line = unit.getLineMap().getLineNumber(trees.getSourcePositions().getStartPosition(unit, tree));
        found.add(rule + " in line " + line);
    }

    private static String nameOf(Element element) {
        return element.getEnclosingElement().getSimpleName() + "." + element;
    }

    private static boolean isOwn(String type) {
        return type.matches(OWN);
    }

    @Override
    public Void visitClass(ClassTree node, Void nothing) {
        Element type = trees.getElement(getCurrentPath());
        fields.put(type.toString(), (int) type.getEnclosedElements().stream()
            .filter(member -> member.getKind() == ElementKind.FIELD && !member.getModifiers().contains(Modifier.STATIC)).count());
        if (!method.isEmpty()) {
            against("rule 2: a class inside a method", node);
        }
        return super.visitClass(node, nothing);
    }

    @Override
    public Void visitMethod(MethodTree node, Void nothing) {
        Element element = trees.getElement(getCurrentPath());
        method = nameOf(element);
        isInConstructor = element.getKind() == ElementKind.CONSTRUCTOR;
        calls.computeIfAbsent(method, name -> new TreeSet<>());
        long start = unit.getLineMap().getLineNumber(trees.getSourcePositions().getStartPosition(unit, node));
        long end = unit.getLineMap().getLineNumber(Math.max(0, trees.getSourcePositions().getEndPosition(unit, node)));
        if (end - start >= MOST_LINES) {
            against("rule 11: a long method", node);
        }
        if (node.getParameters().size() > MOST_PARAMETERS) {
            against("rule 11: many parameters", node);
        }
        if (Set.of("equals", "hashCode", "toString").contains(node.getName().toString())) {
            against("rule 6: " + node.getName(), node);
        }
        super.visitMethod(node, nothing);
        method = "";
        isInConstructor = false;
        return null;
    }

    @Override
    public Void visitVariable(VariableTree node, Void nothing) {
        Element element = trees.getElement(getCurrentPath());
        String type = element.asType().toString();
        if (!type.matches(TYPES)) {
            against("rule 3: the type " + type, node);
        }
        Set<Modifier> modifiers = element.getModifiers();
        if (modifiers.contains(Modifier.STATIC) && !modifiers.contains(Modifier.FINAL)) {
            against("rule 5: a static field that is not final", node);
        }
        if (modifiers.contains(Modifier.STATIC) && !type.matches(CONSTANTS)) {
            against("rule 5: a constant of the type " + type, node);
        }
        return super.visitVariable(node, nothing);
    }

    @Override
    public Void visitMethodInvocation(MethodInvocationTree node, Void nothing) {
        Element called = trees.getElement(new TreePath(getCurrentPath(), node.getMethodSelect()));
        Element type = called.getEnclosingElement();
        if (called.getKind() == ElementKind.CONSTRUCTOR) {
            return super.visitMethodInvocation(node, nothing);
        }
        if (isInConstructor) {
            against("rule 12: a call in a constructor", node);
        }
        if (isOwn(type.toString())) {
            calls.computeIfAbsent(method, name -> new TreeSet<>()).add(nameOf(called));
        } else if (!LIBRARY.contains(type.getSimpleName() + "." + called.getSimpleName())) {
            against("rule 4: " + type + "." + called, node);
        }
        return super.visitMethodInvocation(node, nothing);
    }

    @Override
    public Void visitNewClass(NewClassTree node, Void nothing) {
        String type = trees.getTypeMirror(getCurrentPath()).toString();
        boolean isException = EXCEPTIONS.contains(type.substring(type.lastIndexOf('.') + 1)) && type.startsWith("java.");
        if (!isOwn(type) && !isException) {
            against("rule 4: new " + type, node);
        }
        for (Tree argument : isException ? node.getArguments() : List.<Tree>of()) {
            if (argument.getKind() != Tree.Kind.STRING_LITERAL) {
                against("rule 6: an exception without a written text", argument);
            }
        }
        return super.visitNewClass(node, nothing);
    }

    @Override
    public Void visitThrow(ThrowTree node, Void nothing) {
        if (node.getExpression().getKind() != Tree.Kind.NEW_CLASS || isInConstructor) {
            against("rule 6: a throw", node);
        }
        return super.visitThrow(node, nothing);
    }

    @Override
    public Void visitTypeCast(TypeCastTree node, Void nothing) {
        TypeMirror type = trees.getTypeMirror(new TreePath(getCurrentPath(), node.getType()));
        if (!type.getKind().isPrimitive()) {
            against("rule 6: a cast to " + type, node);
        }
        return super.visitTypeCast(node, nothing);
    }

    @Override
    public Void visitBinary(BinaryTree node, Void nothing) {
        TypeMirror type = trees.getTypeMirror(getCurrentPath());
        if (type.getKind() == TypeKind.DECLARED) {
            against("rule 10: a text joined by +", node);
        }
        return super.visitBinary(node, nothing);
    }

    @Override
    public Void visitLiteral(LiteralTree node, Void nothing) {
        if (node.getValue() instanceof String && !((String) node.getValue()).matches("[\\x01-\\x7f]*")) {
            against("rule 4: a sign of a text", node);
        }
        return super.visitLiteral(node, nothing);
    }

    @Override
    public Void visitBlock(BlockTree node, Void nothing) {
        if (node.isStatic()) {
            against("rule 5: a static block", node);
        }
        return super.visitBlock(node, nothing);
    }

    // The class needs none of those that follow, though rule 6 allows some of the first.

    @Override
    public Void visitTry(TryTree node, Void nothing) {
        against("rule 6: try", node);
        return super.visitTry(node, nothing);
    }

    @Override
    public Void visitLambdaExpression(LambdaExpressionTree node, Void nothing) {
        against("rule 2: a lambda", node);
        return super.visitLambdaExpression(node, nothing);
    }

    @Override
    public Void visitMemberReference(MemberReferenceTree node, Void nothing) {
        against("rule 2: a method reference", node);
        return super.visitMemberReference(node, nothing);
    }

    @Override
    public Void visitSynchronized(SynchronizedTree node, Void nothing) {
        against("rule 6: synchronized", node);
        return super.visitSynchronized(node, nothing);
    }

    @Override
    public Void visitAssert(AssertTree node, Void nothing) {
        against("rule 6: assert", node);
        return super.visitAssert(node, nothing);
    }
}
