import com.sun.source.tree.AnnotationTree;
import com.sun.source.tree.AssertTree;
import com.sun.source.tree.BinaryTree;
import com.sun.source.tree.BlockTree;
import com.sun.source.tree.CatchTree;
import com.sun.source.tree.ClassTree;
import com.sun.source.tree.CompilationUnitTree;
import com.sun.source.tree.CompoundAssignmentTree;
import com.sun.source.tree.ExpressionTree;
import com.sun.source.tree.ImportTree;
import com.sun.source.tree.LambdaExpressionTree;
import com.sun.source.tree.LiteralTree;
import com.sun.source.tree.MemberReferenceTree;
import com.sun.source.tree.MemberSelectTree;
import com.sun.source.tree.MethodInvocationTree;
import com.sun.source.tree.MethodTree;
import com.sun.source.tree.NewClassTree;
import com.sun.source.tree.SynchronizedTree;
import com.sun.source.tree.ThrowTree;
import com.sun.source.tree.Tree;
import com.sun.source.tree.TryTree;
import com.sun.source.tree.VariableTree;
import com.sun.source.util.JavacTask;
import com.sun.source.util.TreePath;
import com.sun.source.util.TreePathScanner;
import com.sun.source.util.Trees;
import java.io.IOException;
import java.nio.charset.StandardCharsets;
import java.nio.file.Path;
import java.util.HashMap;
import java.util.HashSet;
import java.util.List;
import java.util.Map;
import java.util.Set;
import java.util.TreeSet;
import javax.lang.model.element.Element;
import javax.lang.model.element.ElementKind;
import javax.lang.model.element.ExecutableElement;
import javax.lang.model.element.Modifier;
import javax.lang.model.element.TypeElement;
import javax.lang.model.type.TypeKind;
import javax.lang.model.type.TypeMirror;
import javax.tools.JavaCompiler;
import javax.tools.StandardJavaFileManager;
import javax.tools.ToolProvider;

/** What of ../shared/LANGUAGE.md can be seen in the source: each breach is told with its rule's number. */
final class LanguageTest extends TreePathScanner<Void, Void> {
    private static final Path SOURCE = Path.of("src/main/java/Speedrunnery.java");
    private static final int MOST_CLASSES = 12;
    private static final int MOST_FIELDS = 20;
    private static final int MOST_PARAMETERS = 7;
    private static final int MOST_LINES = 60;
    private static final int MOST_DEPTH = 8;
    private static final Set<String> EXCEPTIONS = Set.of("IllegalStateException", "IllegalArgumentException",
        "IndexOutOfBoundsException", "ArithmeticException", "UnsupportedOperationException", "NoSuchElementException",
        "RuntimeException");
    private static final Set<String> IMPORTS = Set.of("java.util.NoSuchElementException", "java.util.ArrayList",
        "java.util.List", "java.util.Arrays", "java.util.Iterator");
    private static final Map<String, Set<String>> LIBRARY = Map.of(
        "java.lang.String", Set.of("length", "charAt", "isEmpty", "equals", "indexOf", "substring", "toCharArray", "<init>"),
        "java.lang.StringBuilder", Set.of("append", "charAt", "setCharAt", "setLength", "deleteCharAt", "reverse", "length",
            "toString", "<init>"),
        "java.util.ArrayList", Set.of("add", "get", "set", "remove", "size", "isEmpty", "clear", "<init>"),
        "java.util.List", Set.of("add", "get", "set", "remove", "size", "isEmpty", "clear", "of"),
        "java.lang.System", Set.of("arraycopy"),
        "java.util.Arrays", Set.of("copyOf", "copyOfRange", "fill"),
        "java.lang.Object", Set.of("<init>"),
        "java.lang.Math", Set.of("max", "min", "abs", "floorDiv", "floorMod"),
        "java.lang.Integer", Set.of("compare", "max", "min", "bitCount"),
        "java.lang.Long", Set.of("compare", "max", "min", "bitCount"));

    private final Trees trees;
    private final CompilationUnitTree unit;
    private final Set<String> breaches = new TreeSet<>();
    private final Map<Element, Set<Element>> calls = new HashMap<>();
    private int classes = 0;

    private LanguageTest(Trees trees, CompilationUnitTree unit) {
        this.trees = trees;
        this.unit = unit;
    }

    private void breach(int rule, String what, Tree where) {
        long line = unit.getLineMap().getLineNumber(trees.getSourcePositions().getStartPosition(unit, where));
        breaches.add("rule " + rule + ": " + what + ", line " + line);
    }

    private void refuseIf(boolean broken, int rule, String what, Tree where) {
        if (broken) {
            breach(rule, what, where);
        }
    }

    private Element element() {
        return trees.getElement(getCurrentPath());
    }

    private static boolean isOwn(Element element) {
        for (Element e = element; e != null; e = e.getEnclosingElement()) {
            if (e.getKind() == ElementKind.CLASS && e.getSimpleName().contentEquals("Speedrunnery")) {
                return true;
            }
        }
        return false;
    }

    private MethodTree around() {
        for (TreePath path = getCurrentPath(); path != null; path = path.getParentPath()) {
            if (path.getLeaf() instanceof MethodTree method) {
                return method;
            }
        }
        return null;
    }

    @Override
    public Void visitImport(ImportTree node, Void p) {
        refuseIf(!IMPORTS.contains(node.getQualifiedIdentifier().toString()), 4, "import", node);
        return super.visitImport(node, p);
    }

    @Override
    public Void visitClass(ClassTree node, Void p) {
        classes++;
        Element element = element();
        boolean isFace = element.getEnclosingElement().getKind() == ElementKind.PACKAGE;
        refuseIf(around() != null, 2, "a local or anonymous class", node);
        refuseIf(!isFace && !element.getModifiers().contains(Modifier.STATIC), 1, "an inner class", node);
        refuseIf(!isFace && (element.getModifiers().contains(Modifier.PUBLIC) || element.getModifiers().contains(Modifier.PROTECTED)),
            1, "a public class inside", node);
        long fields = element.getEnclosedElements().stream()
            .filter(e -> e.getKind() == ElementKind.FIELD && !e.getModifiers().contains(Modifier.STATIC)).count();
        refuseIf(fields > MOST_FIELDS, 11, fields + " fields", node);
        return super.visitClass(node, p);
    }

    @Override
    public Void visitVariable(VariableTree node, Void p) {
        Element element = element();
        String type = element.asType().toString();
        refuseIf(!type.matches("(int|long|short|byte|char|boolean|double|float)(\\[\\]){0,2}"
            + "|(java\\.lang\\.(String|StringBuilder|Integer)|(java\\.util\\.(ArrayList|List)<)?Speedrunnery[.\\w]*>?)(\\[\\])?"),
            3, "the type " + type, node);
        if (element.getKind() == ElementKind.FIELD && element.getModifiers().contains(Modifier.STATIC)) {
            refuseIf(!element.getModifiers().contains(Modifier.FINAL), 5, "a static field that is not final", node);
            refuseIf(!type.matches("int|long|boolean|char|java.lang.String|(int|long|char|byte)\\[\\]"), 5, "a static " + type, node);
        }
        return super.visitVariable(node, p);
    }

    @Override
    public Void visitBlock(BlockTree node, Void p) {
        boolean isInitialiser = getCurrentPath().getParentPath().getLeaf() instanceof ClassTree;
        refuseIf(isInitialiser && node.isStatic(), 5, "a static initialiser", node);
        return super.visitBlock(node, p);
    }

    @Override
    public Void visitMethod(MethodTree node, Void p) {
        refuseIf(node.getParameters().size() > MOST_PARAMETERS, 11, "more than seven parameters", node);
        if (node.getBody() != null) {
            long start = trees.getSourcePositions().getStartPosition(unit, node);
            long end = trees.getSourcePositions().getEndPosition(unit, node);
            if (end > start) {
                long lines = unit.getLineMap().getLineNumber(end) - unit.getLineMap().getLineNumber(start) + 1;
                refuseIf(lines > MOST_LINES, 11, lines + " lines", node);
            }
        }
        String name = node.getName().toString();
        refuseIf(List.of("equals", "hashCode", "toString").contains(name), 6, name, node);
        Element element = element();
        if (element.getModifiers().contains(Modifier.PRIVATE)) {
            refuseIf(faceNames().contains(name), 1, "a private " + name, node);
        }
        return super.visitMethod(node, p);
    }

    private Set<String> faceNames() {
        Set<String> names = new HashSet<>();
        for (Element e : trees.getElement(new TreePath(new TreePath(unit), unit.getTypeDecls().get(0))).getEnclosedElements()) {
            if (e.getKind() == ElementKind.METHOD && e.getModifiers().contains(Modifier.PUBLIC)) {
                names.add(e.getSimpleName().toString());
            }
        }
        return names;
    }

    @Override
    public Void visitMethodInvocation(MethodInvocationTree node, Void p) {
        called(element(), node);
        return super.visitMethodInvocation(node, p);
    }

    @Override
    public Void visitNewClass(NewClassTree node, Void p) {
        called(element(), node);
        return super.visitNewClass(node, p);
    }

    private void called(Element target, Tree node) {
        if (isOwn(target)) {
            MethodTree from = around();
            if (from != null) {
                Element caller = trees.getElement(trees.getPath(unit, from));
                calls.computeIfAbsent(caller, c -> new HashSet<>()).add(target);
            }
            return;
        }
        TypeElement type = (TypeElement) target.getEnclosingElement();
        String name = ((ExecutableElement) target).getSimpleName().toString();
        boolean isException = EXCEPTIONS.contains(type.getSimpleName().toString()) && name.equals("<init>");
        boolean isListed = LIBRARY.getOrDefault(type.getQualifiedName().toString(), Set.of()).contains(name);
        refuseIf(!isException && !isListed, 4, type + "." + name, node);
    }

    @Override
    public Void visitThrow(ThrowTree node, Void p) {
        MethodTree method = around();
        refuseIf(method != null && method.getReturnType() == null, 6, "a throw in a constructor", node);
        boolean isPlain = node.getExpression() instanceof NewClassTree made
            && EXCEPTIONS.contains(made.getIdentifier().toString())
            && made.getArguments().size() <= 1
            && made.getArguments().stream().allMatch(a -> a instanceof LiteralTree);
        refuseIf(!isPlain, 6, "a throw of something else", node);
        return super.visitThrow(node, p);
    }

    @Override
    public Void visitTry(TryTree node, Void p) {
        refuseIf(node.getFinallyBlock() != null || !node.getResources().isEmpty(), 6, "finally or resources", node);
        return super.visitTry(node, p);
    }

    /** The rules allow some catches; the class needs none. */
    @Override
    public Void visitCatch(CatchTree node, Void p) {
        breach(6, "a catch", node);
        return super.visitCatch(node, p);
    }

    @Override
    public Void visitLambdaExpression(LambdaExpressionTree node, Void p) {
        breach(2, "a lambda", node);
        return super.visitLambdaExpression(node, p);
    }

    @Override
    public Void visitMemberReference(MemberReferenceTree node, Void p) {
        breach(2, "a method reference", node);
        return super.visitMemberReference(node, p);
    }

    /** The rules list functions of the library, and no field of it but the length of an array. */
    @Override
    public Void visitMemberSelect(MemberSelectTree node, Void p) {
        Element selected = element();
        boolean isField = selected != null && selected.getKind().isField();
        TypeMirror of = trees.getTypeMirror(new TreePath(getCurrentPath(), node.getExpression()));
        boolean isOfArray = of != null && of.getKind() == TypeKind.ARRAY;
        refuseIf(isField && !isOwn(selected) && !isOfArray, 4, "the field " + node, node);
        return super.visitMemberSelect(node, p);
    }

    @Override
    public Void visitSynchronized(SynchronizedTree node, Void p) {
        breach(6, "synchronized", node);
        return super.visitSynchronized(node, p);
    }

    @Override
    public Void visitAssert(AssertTree node, Void p) {
        breach(6, "assert", node);
        return super.visitAssert(node, p);
    }

    @Override
    public Void visitAnnotation(AnnotationTree node, Void p) {
        breach(4, "an annotation", node);
        return super.visitAnnotation(node, p);
    }

    private boolean isText(ExpressionTree tree) {
        TypeMirror type = trees.getTypeMirror(new TreePath(getCurrentPath(), tree));
        return type != null && type.toString().equals("java.lang.String");
    }

    @Override
    public Void visitBinary(BinaryTree node, Void p) {
        boolean isPlus = node.getKind() == Tree.Kind.PLUS;
        boolean compares = node.getKind() == Tree.Kind.EQUAL_TO || node.getKind() == Tree.Kind.NOT_EQUAL_TO;
        boolean texts = isText(node.getLeftOperand()) || isText(node.getRightOperand());
        refuseIf(isPlus && texts, 10, "texts joined by +", node);
        refuseIf(compares && texts, 6, "texts compared by ==", node);
        return super.visitBinary(node, p);
    }

    @Override
    public Void visitCompoundAssignment(CompoundAssignmentTree node, Void p) {
        refuseIf(isText(node.getVariable()), 10, "texts joined by +=", node);
        return super.visitCompoundAssignment(node, p);
    }

    @Override
    public Void visitLiteral(LiteralTree node, Void p) {
        if (node.getValue() instanceof String text) {
            refuseIf(!text.chars().allMatch(c -> c >= 1 && c <= 127), 4, "a sign beyond 127", node);
        }
        return super.visitLiteral(node, p);
    }

    /** The most calls that stand open at once, the first one counted; a call of itself counts as too many. */
    private int depth(Element method, Set<Element> open) {
        if (!open.add(method)) {
            return 1000;
        }
        int deepest = 0;
        for (Element next : calls.getOrDefault(method, Set.of())) {
            deepest = Math.max(deepest, depth(next, open));
        }
        open.remove(method);
        return deepest + 1;
    }

    private void told() {
        Check.is("rule 1: no package line", true, () -> unit.getPackageName() == null);
        Check.is("rule 1: one class", 1, () -> unit.getTypeDecls().size());
        Check.is("rule 11: at most twelve classes, these are " + classes, true, () -> classes <= MOST_CLASSES);
        for (Element method : calls.keySet()) {
            Check.is("rule 11: " + method + " is at most eight calls deep", true,
                () -> depth(method, new HashSet<>()) <= MOST_DEPTH);
        }
        Check.is("the breaches of the language", Set.of(), () -> breaches);
    }

    public static void main(String[] args) throws IOException {
        JavaCompiler compiler = ToolProvider.getSystemJavaCompiler();
        StandardJavaFileManager files = compiler.getStandardFileManager(null, null, StandardCharsets.UTF_8);
        JavacTask task = (JavacTask) compiler.getTask(null, files, null, List.of("-proc:none", "-Xjcov"), null,
            files.getJavaFileObjects(SOURCE));
        CompilationUnitTree unit = task.parse().iterator().next();
        task.analyze();
        LanguageTest test = new LanguageTest(Trees.instance(task), unit);
        test.scan(unit, null);
        test.told();
        Check.end();
    }
}
