import com.sun.source.tree.ClassTree;
import com.sun.source.tree.CompilationUnitTree;
import com.sun.source.tree.MethodInvocationTree;
import com.sun.source.tree.MethodTree;
import com.sun.source.tree.NewClassTree;
import com.sun.source.tree.Tree;
import com.sun.source.util.JavacTask;
import com.sun.source.util.TreePath;
import com.sun.source.util.TreePathScanner;
import com.sun.source.util.Trees;
import java.io.IOException;
import java.nio.file.Path;
import java.util.ArrayList;
import java.util.HashSet;
import java.util.LinkedHashMap;
import java.util.List;
import java.util.Map;
import java.util.Set;
import javax.lang.model.element.Element;
import javax.lang.model.element.ExecutableElement;
import javax.lang.model.type.TypeMirror;
import javax.tools.JavaCompiler;
import javax.tools.StandardJavaFileManager;
import javax.tools.ToolProvider;

/** A class as javac reads it: its tree, what the names in it mean, and which method calls which. */
final class Code {
    /** A method or constructor, and what it calls, in the order of the source. */
    static final class Method {
        final ExecutableElement element;
        final MethodTree tree;
        final List<Call> calls = new ArrayList<>();

        Method(ExecutableElement element, MethodTree tree) {
            this.element = element;
            this.tree = tree;
        }

        String name() {
            return element.getEnclosingElement().getSimpleName() + "." + element;
        }
    }

    /** A call of a method or a constructor: the tree is a MethodInvocationTree or a NewClassTree. */
    static final class Call {
        final ExecutableElement called;
        final Tree tree;

        Call(ExecutableElement called, Tree tree) {
            this.called = called;
            this.tree = tree;
        }
    }

    final CompilationUnitTree unit;
    final List<TreePath> nodes = new ArrayList<>();
    final List<ClassTree> classes = new ArrayList<>();
    final List<Call> calls = new ArrayList<>();
    private final Trees trees;
    private final Map<Element, Method> methods = new LinkedHashMap<>();

    private Code(CompilationUnitTree unit, Trees trees) {
        this.unit = unit;
        this.trees = trees;
        new Walk().scan(new TreePath(unit), null);
    }

    static Code of(Path file) throws IOException {
        JavaCompiler javac = ToolProvider.getSystemJavaCompiler();
        try (StandardJavaFileManager files = javac.getStandardFileManager(null, null, null)) {
            List<String> options = List.of("-proc:none");
            JavacTask task = (JavacTask) javac.getTask(null, files, null, options, null, files.getJavaFileObjects(file));
            CompilationUnitTree unit = task.parse().iterator().next();
            task.analyze();
            return new Code(unit, Trees.instance(task));
        }
    }

    Iterable<Method> methods() {
        return methods.values();
    }

    /** The method of this class that a call leads to, or null: it is one of the library's, or one not written. */
    Method called(Call call) {
        return methods.get(call.called);
    }

    Element meaning(TreePath node) {
        return trees.getElement(node);
    }

    Element meaning(Tree tree) {
        return trees.getElement(trees.getPath(unit, tree));
    }

    TypeMirror type(Tree tree) {
        return trees.getTypeMirror(trees.getPath(unit, tree));
    }

    int line(Tree tree) {
        return (int) unit.getLineMap().getLineNumber(start(tree));
    }

    int lastLine(Tree tree) {
        return (int) unit.getLineMap().getLineNumber(end(tree));
    }

    private long start(Tree tree) {
        return trees.getSourcePositions().getStartPosition(unit, tree);
    }

    private long end(Tree tree) {
        return trees.getSourcePositions().getEndPosition(unit, tree);
    }

    /** Whether calls lead from one method to another one, on whatever way. */
    boolean leads(Method from, Method to) {
        return leads(from, to, new HashSet<>());
    }

    private boolean leads(Method from, Method to, Set<Method> seen) {
        for (Call call : from.calls) {
            Method next = called(call);
            if (next == to || next != null && seen.add(next) && leads(next, to, seen)) {
                return true;
            }
        }
        return false;
    }

    boolean areRecursive(Method a, Method b) {
        return leads(a, b) && leads(b, a);
    }

    /** The longest row of calls from a method on in which none comes twice, that method counted too. */
    List<String> deepest(Method from) {
        return deepest(from, new HashSet<>());
    }

    private List<String> deepest(Method from, Set<Method> open) {
        open.add(from);
        List<String> best = new ArrayList<>();
        for (Call call : from.calls) {
            Method next = called(call);
            if (next != null && !open.contains(next)) {
                List<String> rest = deepest(next, open);
                best = rest.size() > best.size() ? rest : best;
            }
        }
        open.remove(from);
        best.add(0, from.name());
        return best;
    }

    private final class Walk extends TreePathScanner<Void, Void> {
        private Method open = null;

        @Override
        public Void scan(Tree tree, Void nothing) {
            if (tree != null) {
                nodes.add(new TreePath(getCurrentPath(), tree));
            }
            return super.scan(tree, nothing);
        }

        @Override
        public Void visitClass(ClassTree tree, Void nothing) {
            classes.add(tree);
            return super.visitClass(tree, nothing);
        }

        @Override
        public Void visitMethod(MethodTree tree, Void nothing) {
            open = new Method((ExecutableElement) trees.getElement(getCurrentPath()), tree);
            methods.put(open.element, open);
            super.visitMethod(tree, nothing);
            open = null;
            return null;
        }

        @Override
        public Void visitMethodInvocation(MethodInvocationTree tree, Void nothing) {
            add(tree);
            return super.visitMethodInvocation(tree, nothing);
        }

        @Override
        public Void visitNewClass(NewClassTree tree, Void nothing) {
            add(tree);
            return super.visitNewClass(tree, nothing);
        }

        private void add(Tree tree) {
            Call call = new Call((ExecutableElement) trees.getElement(getCurrentPath()), tree);
            calls.add(call);
            if (open != null) {
                open.calls.add(call);
            }
        }
    }
}
