import com.sun.source.tree.AssertTree;
import com.sun.source.tree.BinaryTree;
import com.sun.source.tree.BlockTree;
import com.sun.source.tree.ClassTree;
import com.sun.source.tree.CompilationUnitTree;
import com.sun.source.tree.ImportTree;
import com.sun.source.tree.LambdaExpressionTree;
import com.sun.source.tree.MemberReferenceTree;
import com.sun.source.tree.MethodInvocationTree;
import com.sun.source.tree.MethodTree;
import com.sun.source.tree.NewArrayTree;
import com.sun.source.tree.NewClassTree;
import com.sun.source.tree.SynchronizedTree;
import com.sun.source.tree.ThrowTree;
import com.sun.source.tree.Tree;
import com.sun.source.tree.TryTree;
import com.sun.source.util.JavacTask;
import com.sun.source.util.TreePathScanner;
import com.sun.source.util.Trees;
import java.io.IOException;
import java.nio.file.Files;
import java.nio.file.Path;
import java.util.ArrayList;
import java.util.HashMap;
import java.util.HashSet;
import java.util.List;
import java.util.Map;
import java.util.Set;
import javax.lang.model.element.Element;
import javax.lang.model.element.ElementKind;
import javax.lang.model.element.ExecutableElement;
import javax.lang.model.element.Modifier;
import javax.lang.model.element.VariableElement;
import javax.tools.JavaCompiler;
import javax.tools.StandardJavaFileManager;
import javax.tools.ToolProvider;

/** The rules of LANGUAGE.md, by their numbers, held against the source as the compiler understands it. */
public final class RulesTest extends TreePathScanner<Void, ExecutableElement> {
    private static final Path SOURCE = Path.of("src/main/java/StrawWatch.java");
    private static final Set<String> LIBRARY = Set.of("java.lang.Math.abs", "java.lang.Math.max", "java.lang.Math.min",
        "java.lang.String.length", "java.lang.String.charAt", "java.lang.String.indexOf", "java.lang.System.arraycopy",
        "java.util.Arrays.fill", "java.lang.Object.<init>");
    private static final int DEEPEST = 8;
    private static int wrong = 0;

    private final Trees trees;
    private final CompilationUnitTree unit;
    private final Map<ExecutableElement, Set<ExecutableElement>> calls = new HashMap<>();
    private int classes = 0;

    private RulesTest(Trees trees, CompilationUnitTree unit) {
        this.trees = trees;
        this.unit = unit;
    }

    public static void main(String[] args) throws IOException {
        JavaCompiler compiler = ToolProvider.getSystemJavaCompiler();
        try (StandardJavaFileManager files = compiler.getStandardFileManager(null, null, null)) {
            JavacTask task = (JavacTask) compiler.getTask(null, files, null, List.of("-proc:none"), null, files.getJavaFileObjects(SOURCE));
            CompilationUnitTree unit = task.parse().iterator().next();
            task.analyze();
            RulesTest rules = new RulesTest(Trees.instance(task), unit);
            rules.scan(unit, null);
            rules.depth();
            check(rules.calls.size() > 100, 0, "methods seen: " + rules.calls.size());
        }
        check(Files.readString(SOURCE).chars().allMatch(c -> c == '\n' || c >= 32 && c < 127), 4, "signs are 1 to 127");
        System.out.println(wrong == 0 ? "the source keeps to the rules" : wrong + " times a rule is broken");
        if (wrong != 0) System.exit(1);
    }

    private static void check(boolean right, int rule, String what) {
        if (right) return;
        wrong++;
        System.out.println("rule " + rule + ": " + what);
    }

    private void refuse(int rule, Tree tree) { check(false, rule, "line " + line(tree) + ": " + tree.getKind()); }

    private long line(Tree tree) { return unit.getLineMap().getLineNumber(trees.getSourcePositions().getStartPosition(unit, tree)); }

    private long lastLine(Tree tree) { return unit.getLineMap().getLineNumber(trees.getSourcePositions().getEndPosition(unit, tree)); }

    private Element element() { return trees.getElement(getCurrentPath()); }

    // ---------------------------------------------------------------- what may stand in the source

    @Override
    public Void visitImport(ImportTree tree, ExecutableElement in) {
        check(tree.getQualifiedIdentifier().toString().equals("java.util.Arrays"), 4, tree.toString());
        return null;
    }

    @Override
    public Void visitClass(ClassTree tree, ExecutableElement in) {
        classes++;
        check(classes <= 12, 11, "classes: " + classes);
        Element of = element();
        boolean outer = of.getEnclosingElement().getKind() == ElementKind.PACKAGE;
        check(outer || of.getEnclosingElement().getKind().isClass() && of.getModifiers().contains(Modifier.STATIC), 2, "not static: " + of);
        int fields = 0;
        for (Element inside : of.getEnclosedElements()) {
            if (!(inside instanceof VariableElement)) continue;
            boolean isStatic = inside.getModifiers().contains(Modifier.STATIC);
            fields += isStatic ? 0 : 1;
            check(!isStatic || inside.getModifiers().contains(Modifier.FINAL), 5, "static, not final: " + inside);
        }
        check(fields <= 20, 11, "fields of " + of + ": " + fields);
        return super.visitClass(tree, null);
    }

    @Override
    public Void visitMethod(MethodTree tree, ExecutableElement in) {
        ExecutableElement method = (ExecutableElement) element();
        calls.putIfAbsent(method, new HashSet<>());
        check(method.getParameters().size() <= 7, 11, "parameters of " + method);
        check(lastLine(tree) - line(tree) < 60, 11, "lines of " + method + ": " + (lastLine(tree) - line(tree) + 1));
        check(!Set.of("equals", "hashCode", "toString").contains(method.getSimpleName().toString()), 6, "" + method);
        return super.visitMethod(tree, method);
    }

    @Override
    public Void visitBlock(BlockTree tree, ExecutableElement in) {
        if (tree.isStatic()) refuse(5, tree);
        return super.visitBlock(tree, in);
    }

    @Override
    public Void visitLambdaExpression(LambdaExpressionTree tree, ExecutableElement in) {
        refuse(2, tree);
        return null;
    }

    @Override
    public Void visitMemberReference(MemberReferenceTree tree, ExecutableElement in) {
        refuse(2, tree);
        return null;
    }

    @Override
    public Void visitThrow(ThrowTree tree, ExecutableElement in) {
        refuse(6, tree);
        return null;
    }

    @Override
    public Void visitTry(TryTree tree, ExecutableElement in) {
        refuse(6, tree);
        return null;
    }

    @Override
    public Void visitSynchronized(SynchronizedTree tree, ExecutableElement in) {
        refuse(6, tree);
        return null;
    }

    @Override
    public Void visitAssert(AssertTree tree, ExecutableElement in) {
        refuse(6, tree);
        return null;
    }

    @Override
    public Void visitBinary(BinaryTree tree, ExecutableElement in) {
        boolean text = trees.getTypeMirror(getCurrentPath()).toString().equals("java.lang.String");
        if (text) refuse(10, tree);
        return super.visitBinary(tree, in);
    }

    // ---------------------------------------------------------------- calls, and what they make

    @Override
    public Void visitMethodInvocation(MethodInvocationTree tree, ExecutableElement in) {
        noteCall(tree, in);
        return super.visitMethodInvocation(tree, in);
    }

    @Override
    public Void visitNewClass(NewClassTree tree, ExecutableElement in) {
        if (tree.getClassBody() != null) refuse(2, tree);
        onlyInConstructors(tree, in);
        noteCall(tree, in);
        return super.visitNewClass(tree, in);
    }

    @Override
    public Void visitNewArray(NewArrayTree tree, ExecutableElement in) {
        onlyInConstructors(tree, in);
        return super.visitNewArray(tree, in);
    }

    /** All rows are made with the object, so that 512 calls take no more room than one. */
    private void onlyInConstructors(Tree tree, ExecutableElement in) {
        if (in != null && in.getKind() != ElementKind.CONSTRUCTOR) refuse(12, tree);
    }

    private void noteCall(Tree tree, ExecutableElement in) {
        ExecutableElement called = (ExecutableElement) element();
        String name = called.getEnclosingElement() + "." + called.getSimpleName();
        if (name.startsWith("StrawWatch")) {
            if (in != null) calls.computeIfAbsent(in, x -> new HashSet<>()).add(called);
        } else {
            check(LIBRARY.contains(name), 4, "line " + line(tree) + ": " + name);
        }
    }

    // ---------------------------------------------------------------- how deep calls go

    private void depth() {
        for (ExecutableElement from : calls.keySet()) {
            List<ExecutableElement> longest = longest(from, new ArrayList<>());
            check(longest.size() <= DEEPEST, 11, "calls " + longest.size() + " deep: " + longest);
            boolean calledAgain = reaches(from, from, new HashSet<>());
            boolean mayBe = Set.of("readSum", "readUnit").contains(from.getSimpleName().toString());
            check(!calledAgain || mayBe, 8, "recursion without a guard known here: " + from);
        }
    }

    /** The longest way of calls in which none stands twice. */
    private List<ExecutableElement> longest(ExecutableElement from, List<ExecutableElement> open) {
        List<ExecutableElement> best = List.of();
        open.add(from);
        for (ExecutableElement next : calls.getOrDefault(from, Set.of())) {
            if (open.contains(next)) continue;
            List<ExecutableElement> way = longest(next, open);
            if (way.size() > best.size()) best = way;
        }
        open.remove(open.size() - 1);
        List<ExecutableElement> all = new ArrayList<>(List.of(from));
        all.addAll(best);
        return all;
    }

    private boolean reaches(ExecutableElement from, ExecutableElement wanted, Set<ExecutableElement> seen) {
        for (ExecutableElement next : calls.getOrDefault(from, Set.of()))
            if (next.equals(wanted) || seen.add(next) && reaches(next, wanted, seen)) return true;
        return false;
    }
}
