import com.sun.source.tree.BinaryTree;
import com.sun.source.tree.BlockTree;
import com.sun.source.tree.ClassTree;
import com.sun.source.tree.CompilationUnitTree;
import com.sun.source.tree.DoWhileLoopTree;
import com.sun.source.tree.EnhancedForLoopTree;
import com.sun.source.tree.ExpressionTree;
import com.sun.source.tree.ForLoopTree;
import com.sun.source.tree.LiteralTree;
import com.sun.source.tree.MethodInvocationTree;
import com.sun.source.tree.MethodTree;
import com.sun.source.tree.NewArrayTree;
import com.sun.source.tree.NewClassTree;
import com.sun.source.tree.Tree;
import com.sun.source.tree.VariableTree;
import com.sun.source.tree.WhileLoopTree;
import com.sun.source.util.JavacTask;
import com.sun.source.util.TreePath;
import com.sun.source.util.TreePathScanner;
import com.sun.source.util.Trees;
import java.io.IOException;
import java.nio.file.Path;
import java.util.ArrayList;
import java.util.EnumSet;
import java.util.List;
import java.util.Map;
import java.util.Set;
import java.util.TreeMap;
import java.util.TreeSet;
import javax.lang.model.element.Element;
import javax.lang.model.type.TypeKind;
import javax.tools.JavaCompiler;
import javax.tools.StandardJavaFileManager;
import javax.tools.ToolProvider;

/** Reads a source by its syntax tree, with the types that the compiler finds, and keeps what LanguageTest looks at. */
final class SourceScan extends TreePathScanner<Void, Void> {
    /** The last two are fine under conditions, but the class has no need of them. */
    private static final Set<Tree.Kind> KINDS_RULED_OUT = EnumSet.of(Tree.Kind.LAMBDA_EXPRESSION,
            Tree.Kind.MEMBER_REFERENCE, Tree.Kind.THROW, Tree.Kind.TRY, Tree.Kind.SYNCHRONIZED, Tree.Kind.ASSERT,
            Tree.Kind.INSTANCE_OF, Tree.Kind.TYPE_CAST);

    /** Each construct that the language leaves out, with its line. */
    final List<String> ruledOut = new ArrayList<>();
    /** The types of all fields, parameters, variables and answers. */
    final Set<String> types = new TreeSet<>();
    /** What is called of classes that are not in the file. */
    final Set<String> library = new TreeSet<>();
    /** Each method with the file's own methods and constructors that it calls. */
    final Map<String, Set<String>> calls = new TreeMap<>();
    /** The methods and constructors that make an object or an array. */
    final Set<String> makers = new TreeSet<>();
    final Map<String, Long> lengths = new TreeMap<>();
    final Set<String> classes = new TreeSet<>();
    private final Trees trees;
    private final CompilationUnitTree unit;
    private String method = "";

    SourceScan(Path file) throws IOException {
        JavaCompiler compiler = ToolProvider.getSystemJavaCompiler();
        try (StandardJavaFileManager files = compiler.getStandardFileManager(null, null, null)) {
            JavacTask task = (JavacTask) compiler.getTask(null, files, null, List.of("-proc:none"), null,
                    files.getJavaFileObjects(file));
            unit = task.parse().iterator().next();
            task.analyze();
            trees = Trees.instance(task);
            scan(new TreePath(unit), null);
        }
    }

    /** The most calls that stand open at once below a method; a recursion counts as endless. */
    int depth(String from) {
        return depth(from, new TreeSet<>());
    }

    private int depth(String from, Set<String> open) {
        if (!open.add(from)) {
            return Integer.MAX_VALUE;
        }
        int deepest = 0;
        for (String called : calls.getOrDefault(from, Set.of())) {
            int below = depth(called, open);
            deepest = Math.max(deepest, below == Integer.MAX_VALUE ? below : below + 1);
        }
        open.remove(from);
        return deepest;
    }

    private void ruleOut(String what, Tree tree) {
        ruledOut.add(what + " in line " + line(trees.getSourcePositions().getStartPosition(unit, tree)));
    }

    private long line(long position) {
        return unit.getLineMap().getLineNumber(position);
    }

    private static String named(Element element) {
        return element.getEnclosingElement() + "." + element.getSimpleName();
    }

    @Override
    public Void scan(Tree tree, Void none) {
        if (tree != null && KINDS_RULED_OUT.contains(tree.getKind())) {
            ruleOut(tree.getKind().toString(), tree);
        }
        return super.scan(tree, none);
    }

    @Override
    public Void visitCompilationUnit(CompilationUnitTree tree, Void none) {
        if (tree.getPackageName() != null) {
            ruleOut("a package", tree);
        }
        if (tree.getTypeDecls().size() != 1) {
            ruleOut("more than one class of the file", tree);
        }
        tree.getImports().forEach(each -> library.add(each.getQualifiedIdentifier().toString()));
        return super.visitCompilationUnit(tree, none);
    }

    @Override
    public Void visitClass(ClassTree tree, Void none) {
        if (tree.getSimpleName().length() == 0 || !method.isEmpty()) {
            ruleOut("a local or anonymous class", tree);
        }
        classes.add(trees.getElement(getCurrentPath()).toString());
        for (Tree member : tree.getMembers()) {
            if (member instanceof BlockTree) {
                ruleOut("an initialiser block", member);
            }
        }
        return super.visitClass(tree, none);
    }

    @Override
    public Void visitMethod(MethodTree tree, Void none) {
        method = named(trees.getElement(getCurrentPath()));
        long first = line(trees.getSourcePositions().getStartPosition(unit, tree));
        lengths.put(method, line(trees.getSourcePositions().getEndPosition(unit, tree)) - first + 1);
        calls.computeIfAbsent(method, name -> new TreeSet<>());
        if (tree.getReturnType() != null) {
            types.add(trees.getTypeMirror(new TreePath(getCurrentPath(), tree.getReturnType())).toString());
        }
        super.visitMethod(tree, none);
        method = "";
        return null;
    }

    @Override
    public Void visitVariable(VariableTree tree, Void none) {
        types.add(trees.getElement(getCurrentPath()).asType().toString());
        return super.visitVariable(tree, none);
    }

    @Override
    public Void visitMethodInvocation(MethodInvocationTree tree, Void none) {
        called(trees.getElement(getCurrentPath()));
        return super.visitMethodInvocation(tree, none);
    }

    @Override
    public Void visitNewClass(NewClassTree tree, Void none) {
        makers.add(method);
        called(trees.getElement(getCurrentPath()));
        return super.visitNewClass(tree, none);
    }

    private void called(Element element) {
        String name = named(element);
        if (name.startsWith("BarrierDispatch.")) {
            calls.computeIfAbsent(method, key -> new TreeSet<>()).add(name);
        } else if (!name.equals("java.lang.Object.<init>")) {
            library.add(name);
        }
    }

    @Override
    public Void visitNewArray(NewArrayTree tree, Void none) {
        makers.add(method);
        return super.visitNewArray(tree, none);
    }

    @Override
    public Void visitBinary(BinaryTree tree, Void none) {
        if (trees.getTypeMirror(getCurrentPath()).getKind() == TypeKind.DECLARED) {
            ruleOut("texts joined by +", tree);
        }
        return super.visitBinary(tree, none);
    }

    @Override
    public Void visitForLoop(ForLoopTree tree, Void none) {
        expectEnd(tree.getCondition(), tree);
        return super.visitForLoop(tree, none);
    }

    @Override
    public Void visitWhileLoop(WhileLoopTree tree, Void none) {
        expectEnd(tree.getCondition(), tree);
        return super.visitWhileLoop(tree, none);
    }

    @Override
    public Void visitDoWhileLoop(DoWhileLoopTree tree, Void none) {
        expectEnd(tree.getCondition(), tree);
        return super.visitDoWhileLoop(tree, none);
    }

    @Override
    public Void visitEnhancedForLoop(EnhancedForLoopTree tree, Void none) {
        TreePath over = new TreePath(getCurrentPath(), tree.getExpression());
        if (trees.getTypeMirror(over).getKind() != TypeKind.ARRAY) {
            ruleOut("a loop that makes an iterator", tree);
        }
        return super.visitEnhancedForLoop(tree, none);
    }

    /** The end is to be seen from the loop's own lines: a bound that is counted to, or a chain's end. */
    private void expectEnd(ExpressionTree condition, Tree loop) {
        String text = condition == null ? "" : condition.toString();
        if (!text.contains("<") && !text.contains("!= null")) {
            ruleOut("a loop whose end is not to be seen", loop);
        }
    }

    @Override
    public Void visitLiteral(LiteralTree tree, Void none) {
        if (tree.getValue() instanceof String text && text.chars().anyMatch(each -> each > 255)) {
            ruleOut("a text with a character above 255", tree);
        }
        return super.visitLiteral(tree, none);
    }
}
