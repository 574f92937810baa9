import com.sun.source.tree.BinaryTree;
import com.sun.source.tree.ClassTree;
import com.sun.source.tree.CompilationUnitTree;
import com.sun.source.tree.ForLoopTree;
import com.sun.source.tree.MethodInvocationTree;
import com.sun.source.tree.MethodTree;
import com.sun.source.tree.NewArrayTree;
import com.sun.source.tree.NewClassTree;
import com.sun.source.tree.Tree;
import com.sun.source.tree.VariableTree;
import com.sun.source.tree.WhileLoopTree;
import com.sun.source.util.JavacTask;
import com.sun.source.util.TreePath;
import com.sun.source.util.TreePathScanner;
import com.sun.source.util.Trees;
import java.io.IOException;
import java.nio.file.Files;
import java.nio.file.Path;
import java.util.ArrayList;
import java.util.LinkedHashMap;
import java.util.List;
import java.util.Map;
import java.util.Set;
import java.util.TreeSet;
import javax.lang.model.element.Element;
import javax.lang.model.element.ElementKind;
import javax.tools.JavaCompiler;
import javax.tools.StandardJavaFileManager;
import javax.tools.ToolProvider;

/** A source as the compiler reads it: its classes, methods, fields, loops, what it calls and makes, and where. */
final class SourceTree extends TreePathScanner<Void, Void> {
    static final String CONSTRUCTOR = "<init>";

    /** A text of the source, the method that it stands in, and its line. */
    record Found(String text, String method, int line) {
        @Override
        public String toString() {
            return "line " + line + ": " + text;
        }
    }

    /** By names, 'Class.method'; a class's fields are filled by its constructor. */
    final Map<String, MethodTree> methods = new LinkedHashMap<>();
    final Map<String, Set<String>> callsOf = new LinkedHashMap<>();
    final Map<String, ClassTree> classes = new LinkedHashMap<>();
    final Map<String, List<VariableTree>> fields = new LinkedHashMap<>();
    final Map<Tree.Kind, List<Found>> kinds = new LinkedHashMap<>();
    final List<Found> types = new ArrayList<>();
    final List<Found> calls = new ArrayList<>();
    final List<Found> made = new ArrayList<>();
    final List<Found> divisors = new ArrayList<>();
    final List<Found> loops = new ArrayList<>();
    final List<Found> joinedTexts = new ArrayList<>();
    final String text;
    final CompilationUnitTree unit;
    private final Trees trees;
    private String owner = "";
    private String method = "";

    SourceTree(Path source) throws IOException {
        text = Files.readString(source);
        JavaCompiler compiler = ToolProvider.getSystemJavaCompiler();
        try (StandardJavaFileManager files = compiler.getStandardFileManager(null, null, null)) {
            JavacTask task = (JavacTask) compiler.getTask(null, files, null, List.of("-proc:none"), null, files.getJavaFileObjects(source));
            unit = task.parse().iterator().next();
            task.analyze();
            trees = Trees.instance(task);
            scan(unit, null);
        }
    }

    private int lineAt(long position) {
        return (int) unit.getLineMap().getLineNumber(position);
    }

    int line(Tree tree) {
        long at = trees.getSourcePositions().getStartPosition(unit, tree);
        return at < 0 ? 0 : lineAt(at);
    }

    int lines(Tree tree) {
        return lineAt(trees.getSourcePositions().getEndPosition(unit, tree)) - line(tree) + 1;
    }

    private Found found(Tree tree, Object text) {
        return new Found(String.valueOf(text), method, line(tree));
    }

    private Element elementOf(Tree tree) {
        return trees.getElement(new TreePath(getCurrentPath(), tree));
    }

    private String typeOf(Tree tree) {
        return String.valueOf(trees.getTypeMirror(new TreePath(getCurrentPath(), tree)));
    }

    private void called(Tree tree, Element e) {
        String name = e.getEnclosingElement().getSimpleName() + "." + e.getSimpleName();
        // what the compiler writes into every constructor
        if (!name.equals("Object." + CONSTRUCTOR)) {
            calls.add(found(tree, name));
            callsOf.computeIfAbsent(method, key -> new TreeSet<>()).add(name);
        }
    }

    @Override
    public Void scan(Tree tree, Void p) {
        if (tree != null) {
            kinds.computeIfAbsent(tree.getKind(), kind -> new ArrayList<>()).add(found(tree, tree));
        }
        return super.scan(tree, p);
    }

    @Override
    public Void visitClass(ClassTree tree, Void p) {
        String ownerAround = owner;
        String methodAround = method;
        owner = tree.getSimpleName().toString();
        method = owner + "." + CONSTRUCTOR;
        classes.put(owner, tree);
        fields.put(owner, new ArrayList<>());
        super.visitClass(tree, p);
        owner = ownerAround;
        method = methodAround;
        return null;
    }

    @Override
    public Void visitMethod(MethodTree tree, Void p) {
        String methodAround = method;
        method = owner + "." + tree.getName();
        methods.put(method, tree);
        if (tree.getReturnType() != null) {
            types.add(found(tree, typeOf(tree.getReturnType())));
        }
        super.visitMethod(tree, p);
        method = methodAround;
        return null;
    }

    @Override
    public Void visitVariable(VariableTree tree, Void p) {
        Element e = trees.getElement(getCurrentPath());
        types.add(found(tree, e.asType()));
        if (e.getKind() == ElementKind.FIELD) {
            fields.get(owner).add(tree);
        }
        return super.visitVariable(tree, p);
    }

    @Override
    public Void visitMethodInvocation(MethodInvocationTree tree, Void p) {
        called(tree, elementOf(tree.getMethodSelect()));
        return super.visitMethodInvocation(tree, p);
    }

    @Override
    public Void visitNewClass(NewClassTree tree, Void p) {
        made.add(found(tree, tree));
        called(tree, trees.getElement(getCurrentPath()));
        return super.visitNewClass(tree, p);
    }

    @Override
    public Void visitNewArray(NewArrayTree tree, Void p) {
        made.add(found(tree, tree));
        return super.visitNewArray(tree, p);
    }

    @Override
    public Void visitBinary(BinaryTree tree, Void p) {
        if (tree.getKind() == Tree.Kind.DIVIDE || tree.getKind() == Tree.Kind.REMAINDER) {
            divisors.add(found(tree, tree.getRightOperand()));
        }
        if (tree.getKind() == Tree.Kind.PLUS && typeOf(tree).endsWith("String")) {
            joinedTexts.add(found(tree, tree));
        }
        return super.visitBinary(tree, p);
    }

    @Override
    public Void visitForLoop(ForLoopTree tree, Void p) {
        loops.add(found(tree, tree.getCondition()));
        return super.visitForLoop(tree, p);
    }

    @Override
    public Void visitWhileLoop(WhileLoopTree tree, Void p) {
        loops.add(found(tree, tree.getCondition()));
        return super.visitWhileLoop(tree, p);
    }
}
