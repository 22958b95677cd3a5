import com.sun.source.tree.AssertTree;
import com.sun.source.tree.BinaryTree;
import com.sun.source.tree.ClassTree;
import com.sun.source.tree.CompilationUnitTree;
import com.sun.source.tree.DoWhileLoopTree;
import com.sun.source.tree.ForLoopTree;
import com.sun.source.tree.ImportTree;
import com.sun.source.tree.InstanceOfTree;
import com.sun.source.tree.LambdaExpressionTree;
import com.sun.source.tree.LineMap;
import com.sun.source.tree.MemberReferenceTree;
import com.sun.source.tree.MethodInvocationTree;
import com.sun.source.tree.MethodTree;
import com.sun.source.tree.NewArrayTree;
import com.sun.source.tree.NewClassTree;
import com.sun.source.tree.SynchronizedTree;
import com.sun.source.tree.ThrowTree;
import com.sun.source.tree.Tree;
import com.sun.source.tree.TryTree;
import com.sun.source.tree.TypeCastTree;
import com.sun.source.tree.VariableTree;
import com.sun.source.tree.WhileLoopTree;
import com.sun.source.util.JavacTask;
import com.sun.source.util.SourcePositions;
import com.sun.source.util.TreePath;
import com.sun.source.util.TreePathScanner;
import com.sun.source.util.Trees;
import java.io.IOException;
import java.nio.file.Path;
import java.util.HashMap;
import java.util.HashSet;
import java.util.List;
import java.util.Map;
import java.util.Set;
import java.util.TreeSet;
import javax.lang.model.element.Element;
import javax.lang.model.element.ElementKind;
import javax.lang.model.element.Modifier;
import javax.lang.model.element.VariableElement;
import javax.lang.model.type.ArrayType;
import javax.lang.model.type.TypeKind;
import javax.lang.model.type.TypeMirror;
import javax.tools.JavaCompiler;
import javax.tools.StandardJavaFileManager;
import javax.tools.ToolProvider;

/** The rules of LANGUAGE.md, as the compiler's own tree of the source shows them. It runs in the project's folder. */
public final class SourceTest extends TreePathScanner<Void, Void> {
    /** Of rule 4, what the class uses. */
    private static final Set<String> LIBRARY = Set.of("String.length", "String.charAt", "String.indexOf", "Math.max",
            "Math.min", "Math.abs", "System.arraycopy", "Arrays.fill");
    private static final int DEEPEST = 8;

    private final Trees trees;
    private final SourcePositions positions;
    private final CompilationUnitTree unit;
    private final LineMap lines;
    private final Map<Element, Set<Element>> calls = new HashMap<>();
    private final Set<String> used = new TreeSet<>();
    private int classes;

    private SourceTest(JavacTask task, CompilationUnitTree unit) {
        this.trees = Trees.instance(task);
        this.positions = trees.getSourcePositions();
        this.unit = unit;
        this.lines = unit.getLineMap();
    }

    public static void main(String[] args) throws IOException {
        JavaCompiler compiler = ToolProvider.getSystemJavaCompiler();
        try (StandardJavaFileManager files = compiler.getStandardFileManager(null, null, null)) {
            JavacTask task = (JavacTask) compiler.getTask(null, files, null, List.of("-proc:none"), null,
                    files.getJavaFileObjects(Path.of("src/main/java/BelfryBox.java")));
            CompilationUnitTree unit = task.parse().iterator().next();
            task.analyze();
            SourceTest test = new SourceTest(task, unit);
            test.scan(unit, null);
            test.lookAtAll();
        }
        Check.end();
    }

    private void lookAtAll() {
        Check.sentence("rule 4: the library: only what stands here");
        Check.due("the library", used.toString(), new TreeSet<>(LIBRARY).toString());
        Check.sentence("rule 11: the file has at most some twelve classes");
        Check.due("classes", classes > 1 && classes <= 12, true);
        Check.sentence("rule 11: calls that are no recursion go at most eight deep");
        Check.due("methods were found", calls.size() > 100, true);
        int deepest = 0;
        for (Element method : calls.keySet()) {
            int depth = depth(method, new HashSet<>());
            deepest = Math.max(deepest, depth);
            Check.due(method.getEnclosingElement() + "." + method + " goes deeper", depth > DEEPEST, false);
        }
        Check.due("calls were found", deepest > 4, true);
    }

    /** How many calls stand open at once at the most, with that of the method itself. */
    private int depth(Element method, Set<Element> open) {
        Check.due(method + " calls itself", open.contains(method), false);
        int most = 0;
        if (open.add(method)) {
            for (Element next : calls.getOrDefault(method, Set.of())) {
                most = Math.max(most, depth(next, open));
            }
            open.remove(method);
        }
        return most + 1;
    }

    private void need(String rule, Tree tree, boolean holds) {
        Check.sentence(rule);
        Check.due("line " + line(positions.getStartPosition(unit, tree)), holds, true);
    }

    private Void refuse(String rule, Tree tree) {
        need(rule, tree, false);
        return null;
    }

    private long line(long position) {
        return lines.getLineNumber(position);
    }

    private TypeMirror type(Tree tree) {
        return trees.getTypeMirror(new TreePath(getCurrentPath(), tree));
    }

    private static boolean isOwn(Element element) {
        Element outermost = element;
        while (outermost.getEnclosingElement() != null && outermost.getKind() != ElementKind.PACKAGE
                && outermost.getEnclosingElement().getKind() != ElementKind.PACKAGE) {
            outermost = outermost.getEnclosingElement();
        }
        return outermost.getSimpleName().contentEquals("BelfryBox");
    }

    /** The method in which the tree stands, or null. */
    private Element methodHere() {
        for (TreePath path = getCurrentPath(); path != null; path = path.getParentPath()) {
            if (path.getLeaf() instanceof MethodTree) {
                return trees.getElement(path);
            }
        }
        return null;
    }

    @Override
    public Void visitCompilationUnit(CompilationUnitTree tree, Void none) {
        need("without a package line", tree, tree.getPackage() == null);
        need("one file, one class", tree, tree.getTypeDecls().size() == 1);
        return super.visitCompilationUnit(tree, none);
    }

    @Override
    public Void visitImport(ImportTree tree, Void none) {
        need("rule 4: the library", tree, tree.getQualifiedIdentifier().toString().equals("java.util.Arrays"));
        return super.visitImport(tree, none);
    }

    @Override
    public Void visitClass(ClassTree tree, Void none) {
        classes++;
        Set<Modifier> flags = tree.getModifiers().getFlags();
        Tree around = getCurrentPath().getParentPath().getLeaf();
        boolean outermost = around instanceof CompilationUnitTree;
        need("rule 2: static nested classes", tree,
                outermost || around instanceof ClassTree && flags.contains(Modifier.STATIC));
        need("rule 1: classes inside are private or package-visible", tree,
                outermost || !flags.contains(Modifier.PUBLIC) && !flags.contains(Modifier.PROTECTED));
        int fields = 0;
        for (Tree member : tree.getMembers()) {
            need("rule 5: no static initialiser block", member, member.getKind() != Tree.Kind.BLOCK);
            if (member instanceof VariableTree
                    && !((VariableTree) member).getModifiers().getFlags().contains(Modifier.STATIC)) {
                fields++;
            }
        }
        need("rule 11: a class has some twenty fields", tree, fields <= 20);
        return super.visitClass(tree, none);
    }

    @Override
    public Void visitMethod(MethodTree tree, Void none) {
        Element method = trees.getElement(getCurrentPath());
        calls.putIfAbsent(method, new HashSet<>());
        need("rule 11: at most seven parameters", tree, tree.getParameters().size() <= 7);
        long first = line(positions.getStartPosition(unit, tree));
        // A constructor that the compiler adds has no place in the file.
        long last = positions.getEndPosition(unit, tree) < 0 ? first : line(positions.getEndPosition(unit, tree));
        need("rule 11: methods stay short", tree, last - first < 60);
        need("rule 6: no throws", tree, tree.getThrows().isEmpty());
        return super.visitMethod(tree, none);
    }

    @Override
    public Void visitVariable(VariableTree tree, Void none) {
        Element variable = trees.getElement(getCurrentPath());
        TypeMirror type = variable.asType();
        TypeMirror single = type.getKind() == TypeKind.ARRAY ? ((ArrayType) type).getComponentType() : type;
        String name = single.toString();
        boolean number = single.getKind() == TypeKind.INT || single.getKind() == TypeKind.BOOLEAN;
        need("rule 3: types", tree, number || name.equals("java.lang.String") || name.startsWith("BelfryBox."));
        Set<Modifier> flags = variable.getModifiers();
        if (variable.getKind() == ElementKind.FIELD && flags.contains(Modifier.STATIC)) {
            boolean row = type.getKind() == TypeKind.ARRAY && tree.getInitializer() instanceof NewArrayTree
                    && ((NewArrayTree) tree.getInitializer()).getInitializers() != null;
            boolean constant = ((VariableElement) variable).getConstantValue() != null;
            need("rule 5: static fields are final", tree, flags.contains(Modifier.FINAL) && (row || constant));
        }
        return super.visitVariable(tree, none);
    }

    @Override
    public Void visitMethodInvocation(MethodInvocationTree tree, Void none) {
        Element called = trees.getElement(getCurrentPath());
        Element caller = methodHere();
        if (called == null || called.getKind() == ElementKind.CONSTRUCTOR) {
            return super.visitMethodInvocation(tree, none);
        }
        if (isOwn(called)) {
            if (caller != null) {
                calls.computeIfAbsent(caller, k -> new HashSet<>()).add(called);
            }
        } else {
            used.add(called.getEnclosingElement().getSimpleName() + "." + called.getSimpleName());
        }
        return super.visitMethodInvocation(tree, none);
    }

    @Override
    public Void visitNewClass(NewClassTree tree, Void none) {
        Element caller = methodHere();
        need("rule 2: no anonymous class", tree, tree.getClassBody() == null);
        need("rule 4: new", tree, isOwn(trees.getElement(getCurrentPath())));
        need("README: no later call makes an object", tree,
                caller == null || caller.getKind() == ElementKind.CONSTRUCTOR);
        return super.visitNewClass(tree, none);
    }

    @Override
    public Void visitNewArray(NewArrayTree tree, Void none) {
        Element caller = methodHere();
        need("README: all rows are made in constructors", tree,
                caller == null || caller.getKind() == ElementKind.CONSTRUCTOR);
        need("rule 3: arrays of one dimension", tree, tree.getDimensions().size() <= 1);
        return super.visitNewArray(tree, none);
    }

    @Override
    public Void visitTypeCast(TypeCastTree tree, Void none) {
        need("rule 6: a cast only behind the test that makes it safe", tree,
                type(tree.getType()).getKind().isPrimitive());
        return super.visitTypeCast(tree, none);
    }

    @Override
    public Void visitBinary(BinaryTree tree, Void none) {
        boolean joins = tree.getKind() == Tree.Kind.PLUS
                && (!type(tree.getLeftOperand()).getKind().isPrimitive()
                || !type(tree.getRightOperand()).getKind().isPrimitive());
        need("rule 10: joining texts not by +", tree, !joins);
        boolean compares = tree.getKind() == Tree.Kind.EQUAL_TO || tree.getKind() == Tree.Kind.NOT_EQUAL_TO;
        need("rule 6: == never between two Strings", tree,
                !compares || type(tree.getLeftOperand()).getKind().isPrimitive());
        return super.visitBinary(tree, none);
    }

    @Override
    public Void visitForLoop(ForLoopTree tree, Void none) {
        need("rule 9: every loop has an end", tree, tree.getCondition() != null && !tree.getUpdate().isEmpty());
        return super.visitForLoop(tree, none);
    }

    @Override
    public Void visitWhileLoop(WhileLoopTree tree, Void none) {
        need("rule 9: every loop has an end", tree, tree.getCondition().toString().contains("<"));
        return super.visitWhileLoop(tree, none);
    }

    @Override
    public Void visitDoWhileLoop(DoWhileLoopTree tree, Void none) {
        return refuse("the class needs no do", tree);
    }

    @Override
    public Void visitLambdaExpression(LambdaExpressionTree tree, Void none) {
        return refuse("rule 2: no lambda", tree);
    }

    @Override
    public Void visitMemberReference(MemberReferenceTree tree, Void none) {
        return refuse("rule 2: no method reference", tree);
    }

    @Override
    public Void visitThrow(ThrowTree tree, Void none) {
        return refuse("rule 6: no throw", tree);
    }

    @Override
    public Void visitTry(TryTree tree, Void none) {
        return refuse("rule 6: no try", tree);
    }

    @Override
    public Void visitSynchronized(SynchronizedTree tree, Void none) {
        return refuse("rule 6: no synchronized", tree);
    }

    @Override
    public Void visitAssert(AssertTree tree, Void none) {
        return refuse("rule 6: no assert", tree);
    }

    @Override
    public Void visitInstanceOf(InstanceOfTree tree, Void none) {
        return refuse("the class needs no instanceof", tree);
    }
}
