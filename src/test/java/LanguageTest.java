import com.sun.source.tree.AssertTree;
import com.sun.source.tree.BinaryTree;
import com.sun.source.tree.BlockTree;
import com.sun.source.tree.ClassTree;
import com.sun.source.tree.CompilationUnitTree;
import com.sun.source.tree.LambdaExpressionTree;
import com.sun.source.tree.LiteralTree;
import com.sun.source.tree.MemberReferenceTree;
import com.sun.source.tree.MethodInvocationTree;
import com.sun.source.tree.MethodTree;
import com.sun.source.tree.NewClassTree;
import com.sun.source.tree.SynchronizedTree;
import com.sun.source.tree.ThrowTree;
import com.sun.source.tree.Tree;
import com.sun.source.tree.TryTree;
import com.sun.source.tree.TypeCastTree;
import com.sun.source.tree.VariableTree;
import com.sun.source.util.JavacTask;
import com.sun.source.util.TreePath;
import com.sun.source.util.TreePathScanner;
import com.sun.source.util.Trees;
import java.io.IOException;
import java.nio.file.Path;
import java.util.ArrayDeque;
import java.util.Deque;
import java.util.List;
import java.util.Map;
import java.util.Set;
import java.util.TreeMap;
import java.util.TreeSet;
import javax.lang.model.element.Element;
import javax.lang.model.element.ElementKind;
import javax.lang.model.element.Modifier;
import javax.lang.model.type.ArrayType;
import javax.lang.model.type.DeclaredType;
import javax.lang.model.type.TypeKind;
import javax.lang.model.type.TypeMirror;
import javax.tools.JavaCompiler;
import javax.tools.StandardJavaFileManager;
import javax.tools.ToolProvider;

/**
 * The rules of ../shared/LANGUAGE.md that can be seen in the tree of the file; the face itself is FaceTest's. What is
 * not surely against a rule is let pass, so that another file within the rules passes, too.
 */
public final class LanguageTest extends TreePathScanner<Void, Void> {
    private static final Set<String> EXCEPTIONS = Set.of("IllegalStateException", "IllegalArgumentException", "IndexOutOfBoundsException",
        "ArithmeticException", "UnsupportedOperationException", "NoSuchElementException", "RuntimeException");
    private static final String LISTS = "(List|ArrayList|Collection|SequencedCollection|AbstractList|AbstractCollection)";
    /** Rule 4, but for the numbers' own functions. */
    private static final String LIBRARY = "String\\.(length|charAt|isEmpty|equals|indexOf|substring|toCharArray)"
        + "|(Abstract)?StringBuilder\\.(append|charAt|setCharAt|setLength|deleteCharAt|reverse|length|toString)"
        + "|" + LISTS + "\\.(add|get|set|remove|size|isEmpty|clear|of|iterator)|(Iterator|Iterable|Comparable|Enum)\\.\\w+"
        + "|System\\.arraycopy|Arrays\\.(copyOf|copyOfRange|fill)|Array\\.clone|Integer\\.intValue";
    private static final String NUMBERS = "(Integer|Long|Math)\\.\\w+(?<!Exact)\\((int|long)(,(int|long))*\\)";
    private static final String MADE = "String|StringBuilder|ArrayList";
    private static final String KNOWN = "String|StringBuilder|Integer|ArrayList|List|Iterator|Iterable|Comparable";
    private static final String CONSTANTS = "(int|long|char)(\\[\\])?|boolean|byte\\[\\]|java\\.lang\\.String";
    private static final String IMPORTS = "import java\\.util\\.(\\*|ArrayList|Arrays|Iterator|List|NoSuchElementException);";
    /** The rules say "some" of these three. */
    private static final int MOST_LINES = 70;
    private static final int MOST_CLASSES = 14;
    private static final int MOST_FIELDS = 24;
    private static final int MOST_PARAMETERS = 7;
    private static final int MOST_DEEP = 8;

    private final Trees trees;
    private final CompilationUnitTree unit;
    private final Map<String, Set<String>> calls = new TreeMap<>();
    private final Map<String, Integer> fields = new TreeMap<>();
    private final Set<String> found = new TreeSet<>();
    private final Set<String> trying = new TreeSet<>();
    private final Set<String> throwing = new TreeSet<>();
    private String method = "";
    private boolean isInConstructor = false;

    private LanguageTest(Trees trees, CompilationUnitTree unit) {
        this.trees = trees;
        this.unit = unit;
    }

    public static void main(String[] args) throws IOException {
        JavaCompiler compiler = ToolProvider.getSystemJavaCompiler();
        try (StandardJavaFileManager files = compiler.getStandardFileManager(null, null, null)) {
            JavacTask task = (JavacTask) compiler.getTask(null, files, null, List.of("-proc:none"), null, files.getJavaFileObjects(Path.of(args[0])));
            CompilationUnitTree unit = task.parse().iterator().next();
            task.analyze();
            LanguageTest test = new LanguageTest(Trees.instance(task), unit);
            test.scan(unit, null);
            test.close();
        }
    }

    private void close() {
        trying.retainAll(throwing);
        Due.is("what is against the rules", "[]", () -> found);
        Due.is("rule 6: try and throw in one method", "[]", () -> trying);
        Due.is("rule 1: package", null, unit::getPackageName);
        for (Tree line : unit.getImports()) {
            Due.is("rule 4: " + line, true, () -> line.toString().trim().matches(IMPORTS));
        }
        Due.is("rule 11: some twelve classes, not " + fields.size(), true, () -> fields.size() <= MOST_CLASSES);
        Due.is("rule 11: some twenty fields in " + fields, true, () -> fields.values().stream().allMatch(n -> n <= MOST_FIELDS));
        for (String from : calls.keySet()) {
            int deep = deep(from, new ArrayDeque<>());
            Due.is("rule 11: calls from " + from + " go at most " + MOST_DEEP + " deep, not " + deep, true, () -> deep <= MOST_DEEP);
        }
        Due.close("LanguageTest");
    }

    /** How deep the calls below a method go, recursions left out. */
    private int deep(String from, Deque<String> open) {
        int deepest = 0;
        open.push(from);
        for (String to : calls.getOrDefault(from, Set.of())) {
            if (!open.contains(to)) {
                deepest = Math.max(deepest, 1 + deep(to, open));
            }
        }
        open.pop();
        return deepest;
    }

    private void against(String rule, Tree tree) {
        long line = unit.getLineMap().getLineNumber(trees.getSourcePositions().getStartPosition(unit, tree));
        found.add(rule + " in line " + line);
    }

    private static String nameOf(Element element) {
        return element.getEnclosingElement().getSimpleName() + "." + element;
    }

    private static boolean isOwn(Element element) {
        Element type = element;
        while (type != null && type.getEnclosingElement() != null && type.getEnclosingElement().getKind() != ElementKind.PACKAGE) {
            type = type.getEnclosingElement();
        }
        return type != null && type.getSimpleName().contentEquals("NapkinSyntax");
    }

    private static boolean isException(Element type) {
        return EXCEPTIONS.contains(type.getSimpleName().toString());
    }

    /** Rule 3. */
    private static boolean isKnown(TypeMirror type) {
        if (type.getKind() == TypeKind.ARRAY) {
            TypeMirror cell = ((ArrayType) type).getComponentType();
            boolean isRow = cell.getKind() == TypeKind.ARRAY && ((ArrayType) cell).getComponentType().getKind().isPrimitive();
            return isRow || cell.getKind().isPrimitive() || isOwnType(cell);
        }
        boolean isOther = type.getKind() == TypeKind.DECLARED && !isOwnType(type);
        Element element = isOther ? ((DeclaredType) type).asElement() : null;
        return !isOther || isException(element) || element.getSimpleName().toString().matches(KNOWN);
    }

    private static boolean isOwnType(TypeMirror type) {
        return type.getKind() == TypeKind.TYPEVAR || type.getKind() == TypeKind.DECLARED && isOwn(((DeclaredType) type).asElement());
    }

    @Override
    public Void visitClass(ClassTree node, Void nothing) {
        Element type = trees.getElement(getCurrentPath());
        fields.put(type.toString(), (int) type.getEnclosedElements().stream()
            .filter(member -> member.getKind() == ElementKind.FIELD && !member.getModifiers().contains(Modifier.STATIC)).count());
        return super.visitClass(node, nothing);
    }

    @Override
    public Void visitMethod(MethodTree node, Void nothing) {
        Element element = trees.getElement(getCurrentPath());
        String outer = method;
        boolean wasInConstructor = isInConstructor;
        method = nameOf(element);
        isInConstructor = element.getKind() == ElementKind.CONSTRUCTOR;
        calls.computeIfAbsent(method, name -> new TreeSet<>());
        long start = unit.getLineMap().getLineNumber(trees.getSourcePositions().getStartPosition(unit, node));
        long end = unit.getLineMap().getLineNumber(Math.max(0, trees.getSourcePositions().getEndPosition(unit, node)));
        if (end - start >= MOST_LINES) {
            against("rule 11: a long method", node);
        }
        if (node.getParameters().size() > MOST_PARAMETERS) {
            against("rule 11: many parameters", node);
        }
        if (Set.of("equals", "hashCode", "toString").contains(node.getName().toString())) {
            against("rule 6: " + node.getName(), node);
        }
        super.visitMethod(node, nothing);
        method = outer;
        isInConstructor = wasInConstructor;
        return null;
    }

    @Override
    public Void visitVariable(VariableTree node, Void nothing) {
        Element element = trees.getElement(getCurrentPath());
        TypeMirror type = element.asType();
        if (!isKnown(type)) {
            against("rule 3: the type " + type, node);
        }
        if (element.getModifiers().contains(Modifier.STATIC)) {
            TypeMirror cell = type.getKind() == TypeKind.ARRAY ? ((ArrayType) type).getComponentType() : type;
            if (!element.getModifiers().contains(Modifier.FINAL) || !type.toString().matches(CONSTANTS) && !isOwnType(cell)) {
                against("rule 5: a static field", node);
            }
        }
        return super.visitVariable(node, nothing);
    }

    @Override
    public Void visitMethodInvocation(MethodInvocationTree node, Void nothing) {
        Element called = trees.getElement(new TreePath(getCurrentPath(), node.getMethodSelect()));
        Element type = called.getEnclosingElement();
        if (called.getKind() == ElementKind.CONSTRUCTOR) {
            return super.visitMethodInvocation(node, nothing);
        }
        if (isOwn(type)) {
            calls.computeIfAbsent(method, name -> new TreeSet<>()).add(nameOf(called));
            if (isInConstructor && isOpen(called) && isOpen(type)) {
                against("rule 12: a call in a constructor", node);
            }
        } else if (!(type.getSimpleName() + "." + called.getSimpleName()).matches(LIBRARY)
            && !(type.getSimpleName() + "." + called).matches(NUMBERS)) {
            against("rule 4: " + type + "." + called, node);
        }
        return super.visitMethodInvocation(node, nothing);
    }

    /** Whether another class could override it. */
    private static boolean isOpen(Element element) {
        Set<Modifier> modifiers = element.getModifiers();
        return element.getKind() != ElementKind.ENUM && element.getKind() != ElementKind.RECORD && !modifiers.contains(Modifier.FINAL)
            && (element.getKind() == ElementKind.CLASS || !modifiers.contains(Modifier.PRIVATE) && !modifiers.contains(Modifier.STATIC));
    }

    @Override
    public Void visitNewClass(NewClassTree node, Void nothing) {
        Element type = trees.getElement(getCurrentPath()).getEnclosingElement();
        boolean isException = isException(type) && !isOwn(type);
        if (!isOwn(type) && !isException && !type.getSimpleName().toString().matches(MADE)) {
            against("rule 4: new " + type, node);
        }
        for (Tree argument : isException ? node.getArguments() : List.<Tree>of()) {
            if (argument.getKind() != Tree.Kind.STRING_LITERAL) {
                against("rule 6: an exception without a written text", argument);
            }
        }
        return super.visitNewClass(node, nothing);
    }

    @Override
    public Void visitThrow(ThrowTree node, Void nothing) {
        throwing.add(method);
        if (node.getExpression().getKind() != Tree.Kind.NEW_CLASS || isInConstructor) {
            against("rule 6: a throw", node);
        }
        return super.visitThrow(node, nothing);
    }

    @Override
    public Void visitTry(TryTree node, Void nothing) {
        trying.add(method);
        if (node.getFinallyBlock() != null || !node.getResources().isEmpty()) {
            against("rule 6: finally, or resources", node);
        }
        return super.visitTry(node, nothing);
    }

    @Override
    public Void visitTypeCast(TypeCastTree node, Void nothing) {
        TypeMirror type = trees.getTypeMirror(new TreePath(getCurrentPath(), node.getType()));
        if (!type.getKind().isPrimitive() && !isOwnType(type)) {
            against("rule 6: a cast to " + type, node);
        }
        return super.visitTypeCast(node, nothing);
    }

    @Override
    public Void visitBinary(BinaryTree node, Void nothing) {
        if (trees.getTypeMirror(getCurrentPath()).getKind() == TypeKind.DECLARED) {
            against("rule 10: a text joined by +", node);
        }
        return super.visitBinary(node, nothing);
    }

    @Override
    public Void visitLiteral(LiteralTree node, Void nothing) {
        if (node.getValue() instanceof String && !((String) node.getValue()).matches("[\\x01-\\x7f]*")) {
            against("rule 4: a sign of a text", node);
        }
        return super.visitLiteral(node, nothing);
    }

    @Override
    public Void visitBlock(BlockTree node, Void nothing) {
        if (node.isStatic()) {
            against("rule 5: a static block", node);
        }
        return super.visitBlock(node, nothing);
    }

    @Override
    public Void visitLambdaExpression(LambdaExpressionTree node, Void nothing) {
        against("rule 2: a lambda", node);
        return super.visitLambdaExpression(node, nothing);
    }

    @Override
    public Void visitMemberReference(MemberReferenceTree node, Void nothing) {
        against("rule 2: a method reference", node);
        return super.visitMemberReference(node, nothing);
    }

    @Override
    public Void visitSynchronized(SynchronizedTree node, Void nothing) {
        against("rule 6: synchronized", node);
        return super.visitSynchronized(node, nothing);
    }

    @Override
    public Void visitAssert(AssertTree node, Void nothing) {
        against("rule 6: assert", node);
        return super.visitAssert(node, nothing);
    }
}
