import com.sun.source.tree.AssertTree;
import com.sun.source.tree.ClassTree;
import com.sun.source.tree.CompilationUnitTree;
import com.sun.source.tree.EnhancedForLoopTree;
import com.sun.source.tree.ExpressionTree;
import com.sun.source.tree.ImportTree;
import com.sun.source.tree.InstanceOfTree;
import com.sun.source.tree.LambdaExpressionTree;
import com.sun.source.tree.LiteralTree;
import com.sun.source.tree.MemberReferenceTree;
import com.sun.source.tree.MethodInvocationTree;
import com.sun.source.tree.MethodTree;
import com.sun.source.tree.NewArrayTree;
import com.sun.source.tree.NewClassTree;
import com.sun.source.tree.SynchronizedTree;
import com.sun.source.tree.ThrowTree;
import com.sun.source.tree.Tree;
import com.sun.source.tree.TryTree;
import com.sun.source.tree.TypeCastTree;
import com.sun.source.tree.VariableTree;
import com.sun.source.util.JavacTask;
import com.sun.source.util.SourcePositions;
import com.sun.source.util.TreePath;
import com.sun.source.util.TreePathScanner;
import com.sun.source.util.Trees;
import java.io.IOException;
import java.nio.file.Path;
import java.util.ArrayList;
import java.util.LinkedHashMap;
import java.util.LinkedHashSet;
import java.util.List;
import java.util.Map;
import java.util.Set;
import javax.lang.model.element.Element;
import javax.lang.model.element.ExecutableElement;
import javax.lang.model.element.Modifier;
import javax.lang.model.element.TypeElement;
import javax.tools.JavaCompiler;
import javax.tools.StandardJavaFileManager;
import javax.tools.ToolProvider;

/**
 * The rules of LANGUAGE.md, as far as they can be read off the class's tree. Where the class does
 * without something that a rule allows (catches, recursion, objects made in calls), none is let in:
 * who needs one looks at the rule, and then changes this test.
 */
public final class LanguageTest extends TreePathScanner<Void, Void> {
    private static final String SOURCE = "src/main/java/FoldedKeys.java";
    private static final Set<String> LIBRARY = Set.of("java.lang.Math.max", "java.lang.Math.min");
    private static final Set<String> THROWN = Set.of("java.lang.IllegalStateException",
        "java.lang.IllegalArgumentException", "java.lang.IndexOutOfBoundsException");
    private static final int MOST_CLASSES = 12;
    private static final int MOST_FIELDS = 20;
    private static final int MOST_PARAMETERS = 7;
    private static final int MOST_LINES = 60;
    private static final int MOST_DEPTH = 8;

    private final CompilationUnitTree unit;
    private final Trees trees;
    private final List<String> wrong = new ArrayList<>();
    private final Map<ExecutableElement, Set<ExecutableElement>> calls = new LinkedHashMap<>();
    private final Map<ExecutableElement, Integer> depths = new LinkedHashMap<>();
    private final Set<String> face = new LinkedHashSet<>();
    private int classes = 0;

    private LanguageTest(CompilationUnitTree unit, Trees trees) {
        this.unit = unit;
        this.trees = trees;
    }

    private void due(Tree at, String rule, boolean fine) {
        if (!fine) {
            SourcePositions places = trees.getSourcePositions();
            long line = unit.getLineMap().getLineNumber(places.getStartPosition(unit, at));
            wrong.add("line " + line + ": rule " + rule);
        }
    }

    private Element element() {
        return trees.getElement(getCurrentPath());
    }

    // ---- classes, fields, methods

    @Override
    public Void visitImport(ImportTree tree, Void none) {
        due(tree, "4, an import", false);
        return null;
    }

    @Override
    public Void visitClass(ClassTree tree, Void none) {
        Element type = element();
        classes++;
        due(tree, "11, classes", classes <= MOST_CLASSES);
        boolean inside = type.getEnclosingElement() instanceof TypeElement;
        Set<Modifier> signs = type.getModifiers();
        due(tree, "1, a class inside is open", !inside
                || !signs.contains(Modifier.PUBLIC) && !signs.contains(Modifier.PROTECTED));
        due(tree, "2, a class inside is not static", !inside || signs.contains(Modifier.STATIC));
        due(tree, "2, a local class", inside || type.getSimpleName().contentEquals("FoldedKeys"));
        int fields = 0;
        for (Tree member : tree.getMembers()) {
            due(member, "5, a block of its own", member.getKind() != Tree.Kind.BLOCK);
            if (member instanceof VariableTree) {
                Set<Modifier> kinds = ((VariableTree) member).getModifiers().getFlags();
                boolean constant = kinds.contains(Modifier.STATIC);
                due(member, "5, static and not final", !constant || kinds.contains(Modifier.FINAL));
                fields += constant ? 0 : 1;
            }
        }
        due(tree, "11, fields", fields <= MOST_FIELDS);
        return super.visitClass(tree, none);
    }

    @Override
    public Void visitMethod(MethodTree tree, Void none) {
        ExecutableElement method = (ExecutableElement) element();
        calls.put(method, new LinkedHashSet<>());
        due(tree, "11, parameters", tree.getParameters().size() <= MOST_PARAMETERS);
        due(tree, "11, lines", lines(tree) <= MOST_LINES);
        String name = tree.getName().toString();
        due(tree, "6, " + name, !Set.of("equals", "hashCode", "toString").contains(name));
        due(tree, "1, a name of the face: " + name,
                method.getModifiers().contains(Modifier.PUBLIC) || !face.contains(name));
        return super.visitMethod(tree, none);
    }

    private long lines(MethodTree tree) {
        SourcePositions places = trees.getSourcePositions();
        return unit.getLineMap().getLineNumber(places.getEndPosition(unit, tree))
                - unit.getLineMap().getLineNumber(places.getStartPosition(unit, tree)) + 1;
    }

    // ---- what is called, made and thrown

    /** The method that the scanner stands in; null in a field's initialiser. */
    private ExecutableElement around() {
        for (TreePath path = getCurrentPath(); path != null; path = path.getParentPath()) {
            if (path.getLeaf() instanceof MethodTree) {
                return (ExecutableElement) trees.getElement(path);
            }
        }
        return null;
    }

    @Override
    public Void visitMethodInvocation(MethodInvocationTree tree, Void none) {
        Element called = element();
        String type = called.getEnclosingElement().toString();
        boolean own = type.equals("FoldedKeys") || type.startsWith("FoldedKeys.");
        boolean implied = called.getSimpleName().contentEquals("<init>");
        due(tree, "4, " + type + "." + called.getSimpleName(),
                own || implied || LIBRARY.contains(type + "." + called.getSimpleName()));
        if (own && around() != null) {
            calls.get(around()).add((ExecutableElement) called);
        }
        return super.visitMethodInvocation(tree, none);
    }

    private boolean inInitialiserOrConstructor() {
        ExecutableElement method = around();
        return method == null || method.getSimpleName().contentEquals("<init>");
    }

    @Override
    public Void visitNewClass(NewClassTree tree, Void none) {
        due(tree, "2, a class without a name", tree.getClassBody() == null);
        boolean thrown = getCurrentPath().getParentPath().getLeaf() instanceof ThrowTree;
        due(tree, "12, an object that is made in a call", thrown || inInitialiserOrConstructor());
        return super.visitNewClass(tree, none);
    }

    @Override
    public Void visitNewArray(NewArrayTree tree, Void none) {
        due(tree, "12, an array that is made in a call", inInitialiserOrConstructor());
        return super.visitNewArray(tree, none);
    }

    @Override
    public Void visitThrow(ThrowTree tree, Void none) {
        due(tree, "6, a throw in a constructor", !inInitialiserOrConstructor());
        ExpressionTree thrown = tree.getExpression();
        due(tree, "6, what is thrown", thrown instanceof NewClassTree
                && THROWN.contains(trees.getTypeMirror(trees.getPath(unit, thrown)).toString()));
        if (thrown instanceof NewClassTree) {
            for (ExpressionTree text : ((NewClassTree) thrown).getArguments()) {
                due(tree, "6, a text that is not written out", text instanceof LiteralTree);
            }
        }
        return super.visitThrow(tree, none);
    }

    // ---- what is ruled out, or what the class does without

    @Override
    public Void visitTry(TryTree tree, Void none) {
        due(tree, "6, try", false);
        return super.visitTry(tree, none);
    }

    @Override
    public Void visitLambdaExpression(LambdaExpressionTree tree, Void none) {
        due(tree, "2, a lambda", false);
        return super.visitLambdaExpression(tree, none);
    }

    @Override
    public Void visitMemberReference(MemberReferenceTree tree, Void none) {
        due(tree, "2, a method reference", false);
        return super.visitMemberReference(tree, none);
    }

    @Override
    public Void visitSynchronized(SynchronizedTree tree, Void none) {
        due(tree, "6, synchronized", false);
        return super.visitSynchronized(tree, none);
    }

    @Override
    public Void visitAssert(AssertTree tree, Void none) {
        due(tree, "6, assert", false);
        return super.visitAssert(tree, none);
    }

    @Override
    public Void visitInstanceOf(InstanceOfTree tree, Void none) {
        due(tree, "6, instanceof", false);
        return super.visitInstanceOf(tree, none);
    }

    @Override
    public Void visitEnhancedForLoop(EnhancedForLoopTree tree, Void none) {
        due(tree, "7, a loop over what may be null", false);
        return super.visitEnhancedForLoop(tree, none);
    }

    @Override
    public Void visitTypeCast(TypeCastTree tree, Void none) {
        due(tree, "7, a cast of a reference", trees.getTypeMirror(trees.getPath(unit, tree.getType()))
                .getKind().isPrimitive());
        return super.visitTypeCast(tree, none);
    }

    // ---- how deep calls go

    /** The calls open at once, this one too; beyond any bound if a method comes to itself. */
    private int depth(ExecutableElement method, Set<ExecutableElement> open) {
        if (!open.add(method)) {
            return 1000;
        }
        Integer known = depths.get(method);
        int deepest = known == null ? 1 : known;
        if (known == null) {
            for (ExecutableElement called : calls.getOrDefault(method, Set.of())) {
                deepest = Math.max(deepest, 1 + depth(called, open));
            }
            depths.put(method, deepest);
        }
        open.remove(method);
        return deepest;
    }

    private void checkDepths() {
        for (ExecutableElement method : calls.keySet()) {
            int depth = depth(method, new LinkedHashSet<>());
            due(trees.getTree(method), "11, " + method + " goes " + depth + " deep", depth <= MOST_DEPTH);
        }
    }

    private void check() {
        for (Tree type : unit.getTypeDecls()) {
            for (Tree member : ((ClassTree) type).getMembers()) {
                if (member instanceof MethodTree
                        && ((MethodTree) member).getModifiers().getFlags().contains(Modifier.PUBLIC)) {
                    face.add(((MethodTree) member).getName().toString());
                }
            }
        }
        face.remove("<init>");
        due(unit, "2, one class in the file", unit.getTypeDecls().size() == 1);
        scan(unit, null);
        checkDepths();
        due(unit, "1, not the face of 22 methods", face.size() == 22);
    }

    public static void main(String[] args) throws IOException {
        JavaCompiler compiler = ToolProvider.getSystemJavaCompiler();
        List<String> wrong = new ArrayList<>();
        try (StandardJavaFileManager files = compiler.getStandardFileManager(null, null, null)) {
            JavacTask task = (JavacTask) compiler.getTask(null, files, null, List.of("-proc:none"), null,
                    files.getJavaFileObjects(Path.of(args.length > 0 ? args[0] : SOURCE)));
            List<CompilationUnitTree> units = new ArrayList<>();
            task.parse().forEach(units::add);
            task.analyze();
            for (CompilationUnitTree unit : units) {
                LanguageTest test = new LanguageTest(unit, Trees.instance(task));
                test.check();
                wrong.addAll(test.wrong);
            }
        }
        wrong.forEach(System.out::println);
        System.out.println(wrong.isEmpty() ? "the rules are kept" : wrong.size() + " wrong");
        if (!wrong.isEmpty()) {
            System.exit(1);
        }
    }
}
