import com.sun.source.tree.ArrayAccessTree;
import com.sun.source.tree.AssignmentTree;
import com.sun.source.tree.BinaryTree;
import com.sun.source.tree.BlockTree;
import com.sun.source.tree.ClassTree;
import com.sun.source.tree.CompilationUnitTree;
import com.sun.source.tree.CompoundAssignmentTree;
import com.sun.source.tree.DoWhileLoopTree;
import com.sun.source.tree.EnhancedForLoopTree;
import com.sun.source.tree.ExpressionTree;
import com.sun.source.tree.ForLoopTree;
import com.sun.source.tree.MemberSelectTree;
import com.sun.source.tree.MethodInvocationTree;
import com.sun.source.tree.MethodTree;
import com.sun.source.tree.NewClassTree;
import com.sun.source.tree.Tree;
import com.sun.source.tree.UnaryTree;
import com.sun.source.tree.VariableTree;
import com.sun.source.tree.WhileLoopTree;
import com.sun.source.util.JavacTask;
import com.sun.source.util.TreePath;
import com.sun.source.util.TreePathScanner;
import com.sun.source.util.Trees;
import java.nio.file.Path;
import java.util.ArrayList;
import java.util.EnumSet;
import java.util.LinkedHashMap;
import java.util.LinkedHashSet;
import java.util.List;
import java.util.Map;
import java.util.Set;
import javax.lang.model.element.Element;
import javax.lang.model.element.ElementKind;
import javax.lang.model.element.ExecutableElement;
import javax.lang.model.element.Modifier;
import javax.lang.model.element.TypeElement;
import javax.lang.model.type.ArrayType;
import javax.lang.model.type.TypeKind;
import javax.lang.model.type.TypeMirror;
import javax.lang.model.util.Elements;
import javax.lang.model.util.Types;
import javax.tools.JavaCompiler;
import javax.tools.StandardJavaFileManager;
import javax.tools.ToolProvider;

/** The rules of LANGUAGE.md that the compiler's own tree of the source shows; how deep calls go above all. */
public final class LanguageTest extends TreePathScanner<Void, Void> {
    private static final Due DUE = new Due("LanguageTest");
    private static final int DEEPEST = 8;

    private static final Set<Tree.Kind> NEVER = EnumSet.of(Tree.Kind.THROW, Tree.Kind.TRY, Tree.Kind.CATCH,
        Tree.Kind.SYNCHRONIZED, Tree.Kind.ASSERT, Tree.Kind.LAMBDA_EXPRESSION, Tree.Kind.MEMBER_REFERENCE,
        Tree.Kind.IMPORT, Tree.Kind.PACKAGE, Tree.Kind.ANNOTATION);

    /** Of rule 4 what the class makes use of; more may be put here from that rule. */
    private static final Set<String> LIBRARY = Set.of("java.lang.String.length", "java.lang.String.charAt",
        "java.lang.Integer.bitCount", "java.lang.Math.max", "java.lang.Math.min", "java.lang.Math.floorMod",
        "java.lang.Object.<init>");

    private final Trees trees;
    private final Elements elements;
    private final Types types;
    private final CompilationUnitTree unit;
    private final Set<TypeElement> classes = new LinkedHashSet<>();
    private final Map<ExecutableElement, Set<ExecutableElement>> calls = new LinkedHashMap<>();
    /** Calls that a class below may answer with a method of its own. */
    private final Map<ExecutableElement, Set<ExecutableElement>> openCalls = new LinkedHashMap<>();

    private LanguageTest(JavacTask task, CompilationUnitTree unit) {
        this.trees = Trees.instance(task);
        this.elements = task.getElements();
        this.types = task.getTypes();
        this.unit = unit;
    }

    private String at(Tree tree) {
        return "line " + unit.getLineMap().getLineNumber(trees.getSourcePositions().getStartPosition(unit, tree));
    }

    private Element elementOf(Tree tree) {
        return trees.getElement(TreePath.getPath(unit, tree));
    }

    private ExecutableElement enclosingMethod() {
        for (TreePath path = getCurrentPath(); path != null; path = path.getParentPath()) {
            if (path.getLeaf() instanceof MethodTree) {
                return (ExecutableElement) trees.getElement(path);
            }
        }
        return null;
    }

    // ---- what stands in the tree

    @Override
    public Void scan(Tree tree, Void v) {
        if (tree != null && NEVER.contains(tree.getKind())) {
            DUE.holds(false, at(tree) + ": no " + tree.getKind() + ": that");
        }
        return super.scan(tree, v);
    }

    @Override
    public Void visitClass(ClassTree tree, Void v) {
        TypeElement type = (TypeElement) trees.getElement(getCurrentPath());
        classes.add(type);
        boolean outermost = type.getEnclosingElement().getKind() == ElementKind.PACKAGE;
        DUE.holds(outermost || type.getEnclosingElement() instanceof TypeElement
            && type.getModifiers().contains(Modifier.STATIC), at(tree) + ": a class inside is static: that");
        for (Tree member : tree.getMembers()) {
            DUE.holds(!(member instanceof BlockTree), at(member) + ": no block of its own in a class: that");
        }
        return super.visitClass(tree, v);
    }

    @Override
    public Void visitMethod(MethodTree tree, Void v) {
        ExecutableElement method = (ExecutableElement) trees.getElement(getCurrentPath());
        calls.putIfAbsent(method, new LinkedHashSet<>());
        openCalls.putIfAbsent(method, new LinkedHashSet<>());
        DUE.holds(tree.getThrows().isEmpty(), at(tree) + ": no throws: that");
        long from = trees.getSourcePositions().getStartPosition(unit, tree);
        long to = trees.getSourcePositions().getEndPosition(unit, tree);
        if (to >= 0) {
            long lines = unit.getLineMap().getLineNumber(to) - unit.getLineMap().getLineNumber(from);
            DUE.holds(lines < 60, at(tree) + ": sixty lines at most: that");
        }
        return super.visitMethod(tree, v);
    }

    @Override
    public Void visitVariable(VariableTree tree, Void v) {
        Element variable = trees.getElement(getCurrentPath());
        TypeMirror type = variable.asType();
        TypeMirror item = type instanceof ArrayType array ? array.getComponentType() : type;
        boolean own = types.asElement(item) instanceof TypeElement t && isOwn(t);
        DUE.holds(item.getKind().isPrimitive() || own || item.toString().equals("java.lang.String"),
            at(tree) + ": a type of rule 3, not " + type + ": that");
        if (variable.getModifiers().contains(Modifier.STATIC)) {
            DUE.holds(variable.getModifiers().contains(Modifier.FINAL), at(tree) + ": static is final: that");
            boolean isArray = type.getKind() == TypeKind.ARRAY && tree.getInitializer() != null
                && tree.getInitializer().getKind() == Tree.Kind.NEW_ARRAY && item.getKind().isPrimitive();
            boolean isConstant = ((javax.lang.model.element.VariableElement) variable).getConstantValue() != null;
            DUE.holds(isArray || isConstant, at(tree) + ": static is constant: that");
        }
        return super.visitVariable(tree, v);
    }

    private boolean isOwn(TypeElement type) {
        return elements.getPackageOf(type).isUnnamed();
    }

    /** Static rows are never changed. */
    private void isNoStaticRow(ExpressionTree target) {
        if (target instanceof ArrayAccessTree access) {
            Element row = elementOf(access.getExpression());
            DUE.holds(row != null && !row.getModifiers().contains(Modifier.STATIC),
                at(target) + ": no static row changes: that");
        }
    }

    @Override
    public Void visitAssignment(AssignmentTree tree, Void v) {
        isNoStaticRow(tree.getVariable());
        return super.visitAssignment(tree, v);
    }

    @Override
    public Void visitCompoundAssignment(CompoundAssignmentTree tree, Void v) {
        isNoStaticRow(tree.getVariable());
        return super.visitCompoundAssignment(tree, v);
    }

    @Override
    public Void visitUnary(UnaryTree tree, Void v) {
        switch (tree.getKind()) {
            case PREFIX_INCREMENT:
            case PREFIX_DECREMENT:
            case POSTFIX_INCREMENT:
            case POSTFIX_DECREMENT:
                isNoStaticRow(tree.getExpression());
                break;
            default:
                break;
        }
        return super.visitUnary(tree, v);
    }

    // ---- loops: a counter against a bound, in the loop's own lines

    private static boolean hasBound(ExpressionTree condition) {
        ExpressionTree bare = condition;
        while (bare instanceof com.sun.source.tree.ParenthesizedTree p) {
            bare = p.getExpression();
        }
        if (!(bare instanceof BinaryTree b)) {
            return false;
        }
        switch (b.getKind()) {
            case LESS_THAN:
            case LESS_THAN_EQUAL:
            case GREATER_THAN:
            case GREATER_THAN_EQUAL:
                return true;
            case CONDITIONAL_AND:
                return hasBound(b.getLeftOperand()) || hasBound(b.getRightOperand());
            default:
                return false;
        }
    }

    @Override
    public Void visitForLoop(ForLoopTree tree, Void v) {
        DUE.holds(hasBound(tree.getCondition()) && tree.getUpdate().size() == 1, at(tree) + ": a bound: that");
        return super.visitForLoop(tree, v);
    }

    @Override
    public Void visitWhileLoop(WhileLoopTree tree, Void v) {
        DUE.holds(hasBound(tree.getCondition()), at(tree) + ": a bound: that");
        return super.visitWhileLoop(tree, v);
    }

    @Override
    public Void visitDoWhileLoop(DoWhileLoopTree tree, Void v) {
        DUE.holds(hasBound(tree.getCondition()), at(tree) + ": a bound: that");
        return super.visitDoWhileLoop(tree, v);
    }

    @Override
    public Void visitEnhancedForLoop(EnhancedForLoopTree tree, Void v) {
        DUE.holds(trees.getTypeMirror(TreePath.getPath(unit, tree.getExpression())).getKind() == TypeKind.ARRAY,
            at(tree) + ": over a row: that");
        return super.visitEnhancedForLoop(tree, v);
    }

    // ---- calls

    private void call(ExecutableElement callee, boolean isOpen, Tree tree) {
        TypeElement type = (TypeElement) callee.getEnclosingElement();
        if (!isOwn(type)) {
            String name = type.getQualifiedName() + "." + callee.getSimpleName();
            DUE.holds(LIBRARY.contains(name), at(tree) + ": " + name + " stands in rule 4: that");
        }
        ExecutableElement caller = enclosingMethod();
        if (caller != null) {
            (isOpen ? openCalls : calls).computeIfAbsent(caller, c -> new LinkedHashSet<>()).add(callee);
        }
    }

    @Override
    public Void visitMethodInvocation(MethodInvocationTree tree, Void v) {
        ExecutableElement callee = (ExecutableElement) trees.getElement(getCurrentPath());
        boolean isSuper = tree.getMethodSelect() instanceof MemberSelectTree select
            && select.getExpression().toString().equals("super");
        call(callee, !isSuper && !callee.getModifiers().contains(Modifier.STATIC), tree);
        return super.visitMethodInvocation(tree, v);
    }

    @Override
    public Void visitNewClass(NewClassTree tree, Void v) {
        DUE.holds(tree.getClassBody() == null, at(tree) + ": no class without a name: that");
        call((ExecutableElement) trees.getElement(getCurrentPath()), false, tree);
        return super.visitNewClass(tree, v);
    }

    private List<ExecutableElement> calledBy(ExecutableElement caller) {
        List<ExecutableElement> all = new ArrayList<>(calls.getOrDefault(caller, Set.of()));
        for (ExecutableElement named : openCalls.getOrDefault(caller, Set.of())) {
            all.add(named);
            for (ExecutableElement other : calls.keySet()) {
                if (elements.overrides(other, named, (TypeElement) other.getEnclosingElement())) {
                    all.add(other);
                }
            }
        }
        return all;
    }

    /** The longest chain of calls from a method on, itself counted, the library too. */
    private List<String> deepestFrom(ExecutableElement method, List<ExecutableElement> open) {
        String name = method.getEnclosingElement().getSimpleName() + "." + method.getSimpleName();
        if (open.contains(method)) {
            DUE.holds(false, name + " does not call itself: that");
            return List.of();
        }
        open.add(method);
        List<String> deepest = List.of();
        for (ExecutableElement callee : calledBy(method)) {
            List<String> chain = deepestFrom(callee, open);
            deepest = chain.size() > deepest.size() ? chain : deepest;
        }
        open.remove(open.size() - 1);
        List<String> chain = new ArrayList<>(List.of(name));
        chain.addAll(deepest);
        return chain;
    }

    private void depths() {
        DUE.about("rules 8 and 11");
        int deepest = 0;
        for (ExecutableElement method : calls.keySet()) {
            List<String> chain = deepestFrom(method, new ArrayList<>());
            deepest = Math.max(deepest, chain.size());
            DUE.holds(chain.size() <= DEEPEST, "eight deep at most: " + chain + ": that");
        }
        // A graph without the virtual calls would be shallower, and see nothing.
        DUE.is(DEEPEST, deepest, "how deep the deepest is");
    }

    public static void main(String[] args) throws Exception {
        Path source = Path.of(System.getProperty("project.root", "."), "src/main/java/LightMan.java");
        JavaCompiler compiler = ToolProvider.getSystemJavaCompiler();
        try (StandardJavaFileManager files = compiler.getStandardFileManager(null, null, null)) {
            JavacTask task = (JavacTask) compiler.getTask(null, files, null, List.of("-proc:none"), null,
                files.getJavaFileObjects(source));
            CompilationUnitTree unit = task.parse().iterator().next();
            task.analyze();
            LanguageTest test = new LanguageTest(task, unit);
            DUE.about("rules 2 to 7, 9, 11");
            test.scan(unit, null);
            DUE.holds(test.classes.size() <= 12, "twelve classes at most: that");
            test.depths();
        }
        DUE.end();
    }
}
