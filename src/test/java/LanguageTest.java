import com.sun.source.tree.BinaryTree;
import com.sun.source.tree.ClassTree;
import com.sun.source.tree.CompilationUnitTree;
import com.sun.source.tree.ImportTree;
import com.sun.source.tree.MethodInvocationTree;
import com.sun.source.tree.MethodTree;
import com.sun.source.tree.NewClassTree;
import com.sun.source.tree.ThrowTree;
import com.sun.source.tree.Tree;
import com.sun.source.tree.VariableTree;
import com.sun.source.util.JavacTask;
import com.sun.source.util.TreePathScanner;
import com.sun.source.util.Trees;
import java.io.IOException;
import java.nio.file.Path;
import java.util.ArrayList;
import java.util.HashMap;
import java.util.HashSet;
import java.util.List;
import java.util.Map;
import java.util.Set;
import javax.lang.model.element.Element;
import javax.lang.model.element.ElementKind;
import javax.lang.model.element.Modifier;
import javax.tools.JavaCompiler;
import javax.tools.StandardJavaFileManager;
import javax.tools.ToolProvider;

/** The rules of LANGUAGE.md that can be told from the source; run it from the project's folder. */
final class LanguageTest extends TreePathScanner<Void, Void> {
    private static final Path SOURCE = Path.of("src/main/java/ShardRebalancer.java");
    private static final int DEEPEST = 8;
    private static final Set<String> IMPORTS =
            Set.of("java.util.Arrays", "java.util.NoSuchElementException");
    private static final Set<String> EXCEPTIONS = Set.of("IllegalStateException",
            "IllegalArgumentException", "IndexOutOfBoundsException", "ArithmeticException",
            "UnsupportedOperationException", "NoSuchElementException", "RuntimeException");
    private static final Set<String> LIBRARY = Set.of("java.lang.System.arraycopy",
            "java.util.Arrays.fill", "java.lang.Math.min", "java.lang.Math.max",
            "java.lang.Integer.bitCount", "java.lang.Object.<init>");
    private static final Set<Tree.Kind> FORBIDDEN = Set.of(Tree.Kind.LAMBDA_EXPRESSION,
            Tree.Kind.MEMBER_REFERENCE, Tree.Kind.ASSERT, Tree.Kind.SYNCHRONIZED, Tree.Kind.TRY,
            Tree.Kind.SWITCH_EXPRESSION, Tree.Kind.TYPE_CAST, Tree.Kind.INSTANCE_OF);

    private final Trees trees;
    private final CompilationUnitTree unit;
    private final Map<Element, Set<Element>> calls = new HashMap<>();
    private final List<ClassTree> classes = new ArrayList<>();
    private Element caller = null;

    private LanguageTest(Trees trees, CompilationUnitTree unit) {
        this.trees = trees;
        this.unit = unit;
    }

    public static void main(String[] args) throws IOException {
        JavaCompiler compiler = ToolProvider.getSystemJavaCompiler();
        try (StandardJavaFileManager files = compiler.getStandardFileManager(null, null, null)) {
            JavacTask task = (JavacTask) compiler.getTask(null, files, null,
                    List.of("-proc:none"), null, files.getJavaFileObjects(SOURCE));
            CompilationUnitTree unit = task.parse().iterator().next();
            task.analyze();
            LanguageTest test = new LanguageTest(Trees.instance(task), unit);
            test.scan(unit, null);
            test.wholeFile();
        }
        Check.finish("LanguageTest");
    }

    private void holds(String rule, boolean it) {
        Check.same(rule, it ? 1 : 0, 1);
    }

    private void wholeFile() throws IOException {
        String text = unit.getSourceFile().getCharContent(true).toString();
        holds("no package", unit.getPackageName() == null);
        holds("one class outside", unit.getTypeDecls().size() == 1);
        holds("some twelve classes at most", classes.size() <= 13);
        for (int i = 0; i < text.length(); i++) {
            holds("signs of constants are 1 to 127", text.charAt(i) > 0 && text.charAt(i) < 128);
        }
        for (Element method : calls.keySet()) {
            holds(method + " is " + depth(method, new HashSet<>()) + " calls deep",
                    depth(method, new HashSet<>()) <= DEEPEST);
        }
    }

    /** Counts the methods that stand open at once; the class has no recursion. */
    private int depth(Element method, Set<Element> open) {
        holds(method + " is no recursion", open.add(method));
        int deepest = 0;
        for (Element called : calls.getOrDefault(method, Set.of())) {
            deepest = Math.max(deepest, depth(called, open));
        }
        open.remove(method);
        return 1 + deepest;
    }

    @Override
    public Void scan(Tree tree, Void nothing) {
        if (tree != null) {
            holds("no " + tree.getKind(), !FORBIDDEN.contains(tree.getKind())
                    || tree.toString().startsWith("(double)"));
        }
        return super.scan(tree, nothing);
    }

    @Override
    public Void visitImport(ImportTree tree, Void nothing) {
        holds("import " + tree, IMPORTS.contains(tree.getQualifiedIdentifier().toString()));
        return super.visitImport(tree, nothing);
    }

    @Override
    public Void visitClass(ClassTree tree, Void nothing) {
        classes.add(tree);
        int fields = 0;
        for (Tree member : tree.getMembers()) {
            if (member instanceof VariableTree field) {
                Set<Modifier> flags = field.getModifiers().getFlags();
                boolean isStatic = flags.contains(Modifier.STATIC);
                fields += isStatic ? 0 : 1;
                holds("static fields are final", !isStatic || flags.contains(Modifier.FINAL));
            }
            holds("no initialiser block", member.getKind() != Tree.Kind.BLOCK);
        }
        holds(tree.getSimpleName() + " has some twenty fields at most", fields <= 20);
        return super.visitClass(tree, nothing);
    }

    @Override
    public Void visitMethod(MethodTree tree, Void nothing) {
        holds(tree.getName() + " has seven parameters at most", tree.getParameters().size() <= 7);
        holds(tree.getName() + " has some sixty lines at most", lines(tree) <= 60);
        caller = trees.getElement(getCurrentPath());
        calls.put(caller, new HashSet<>());
        return super.visitMethod(tree, nothing);
    }

    private long lines(MethodTree tree) {
        long first = trees.getSourcePositions().getStartPosition(unit, tree);
        long last = trees.getSourcePositions().getEndPosition(unit, tree);
        return unit.getLineMap().getLineNumber(last) - unit.getLineMap().getLineNumber(first) + 1;
    }

    @Override
    public Void visitMethodInvocation(MethodInvocationTree tree, Void nothing) {
        Element called = trees.getElement(getCurrentPath());
        String owner = called.getEnclosingElement().toString();
        String name = owner + "." + called.getSimpleName();
        holds("a call of " + name,
                owner.startsWith("ShardRebalancer") || LIBRARY.contains(name));
        if (caller != null) {
            calls.get(caller).add(called);
        }
        return super.visitMethodInvocation(tree, nothing);
    }

    @Override
    public Void visitNewClass(NewClassTree tree, Void nothing) {
        String owner = trees.getElement(getCurrentPath()).getEnclosingElement().toString();
        String name = tree.getIdentifier().toString();
        holds("new " + name, owner.startsWith("ShardRebalancer") || EXCEPTIONS.contains(name));
        return super.visitNewClass(tree, nothing);
    }

    @Override
    public Void visitThrow(ThrowTree tree, Void nothing) {
        boolean ofText = tree.getExpression() instanceof NewClassTree made
                && EXCEPTIONS.contains(made.getIdentifier().toString())
                && made.getArguments().stream()
                        .allMatch(text -> text.getKind() == Tree.Kind.STRING_LITERAL);
        holds("a throw of a new exception with a written text", ofText);
        holds("no throw in a constructor",
                caller != null && caller.getKind() != ElementKind.CONSTRUCTOR);
        return super.visitThrow(tree, nothing);
    }

    @Override
    public Void visitBinary(BinaryTree tree, Void nothing) {
        holds("no joining of texts by +",
                !trees.getTypeMirror(getCurrentPath()).toString().equals("java.lang.String"));
        return super.visitBinary(tree, nothing);
    }
}
