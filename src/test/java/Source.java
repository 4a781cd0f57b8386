import com.sun.source.tree.ClassTree;
import com.sun.source.tree.CompilationUnitTree;
import com.sun.source.tree.MethodTree;
import com.sun.source.tree.Tree;
import com.sun.source.tree.VariableTree;
import com.sun.source.util.JavacTask;
import com.sun.source.util.TreePath;
import com.sun.source.util.TreePathScanner;
import com.sun.source.util.Trees;
import java.io.IOException;
import java.nio.file.Path;
import java.util.ArrayList;
import java.util.LinkedHashMap;
import java.util.LinkedHashSet;
import java.util.List;
import java.util.Map;
import java.util.Set;
import javax.lang.model.element.Element;
import javax.lang.model.element.ElementKind;
import javax.lang.model.element.Modifier;
import javax.lang.model.type.TypeMirror;
import javax.tools.JavaCompiler;
import javax.tools.StandardJavaFileManager;
import javax.tools.ToolProvider;

/** A program of one file as the compiler reads it: all its trees, and what each name in them stands for. */
final class Source {
    private final Trees trees;
    private final CompilationUnitTree unit;
    /** Every tree of the file, with those around it. */
    final List<TreePath> paths = new ArrayList<>();

    private Source(JavacTask task) throws IOException {
        unit = task.parse().iterator().next();
        task.analyze();
        trees = Trees.instance(task);
        new TreePathScanner<Void, Void>() {
            @Override
            public Void scan(Tree tree, Void none) {
                if (tree != null) {
                    paths.add(new TreePath(getCurrentPath(), tree));
                }
                return super.scan(tree, none);
            }
        }.scan(new TreePath(unit), null);
    }

    static Source of(Path file) throws IOException {
        JavaCompiler compiler = ToolProvider.getSystemJavaCompiler();
        try (StandardJavaFileManager files = compiler.getStandardFileManager(null, null, null)) {
            return new Source((JavacTask) compiler.getTask(null, files, null, List.of("-proc:none"), null,
                files.getJavaFileObjects(file)));
        }
    }

    CompilationUnitTree unit() {
        return unit;
    }

    /** All trees of these kinds. */
    List<TreePath> all(Tree.Kind... kinds) {
        Set<Tree.Kind> wanted = Set.of(kinds);
        List<TreePath> found = new ArrayList<>();
        for (TreePath path : paths) {
            if (wanted.contains(path.getLeaf().getKind())) {
                found.add(path);
            }
        }
        return found;
    }

    List<TreePath> classes() {
        return all(Tree.Kind.CLASS, Tree.Kind.ENUM, Tree.Kind.INTERFACE, Tree.Kind.RECORD, Tree.Kind.ANNOTATION_TYPE);
    }

    Element element(TreePath path) {
        return trees.getElement(path);
    }

    TypeMirror type(TreePath path) {
        return trees.getTypeMirror(path);
    }

    TypeMirror type(TreePath path, Tree within) {
        return trees.getTypeMirror(new TreePath(path, within));
    }

    long line(TreePath path) {
        return unit.getLineMap().getLineNumber(trees.getSourcePositions().getStartPosition(unit, path.getLeaf()));
    }

    long lines(TreePath path) {
        long last = trees.getSourcePositions().getEndPosition(unit, path.getLeaf());
        return unit.getLineMap().getLineNumber(last) - line(path) + 1;
    }

    String told(TreePath path) {
        String text = path.getLeaf().toString().strip();
        return "line " + line(path) + ": " + text.lines().findFirst().orElse("");
    }

    static boolean isLoop(Tree tree) {
        switch (tree.getKind()) {
            case FOR_LOOP:
            case ENHANCED_FOR_LOOP:
            case WHILE_LOOP:
            case DO_WHILE_LOOP:
                return true;
            default:
                return false;
        }
    }

    static boolean isInLoop(TreePath path) {
        for (TreePath around = path.getParentPath(); around != null; around = around.getParentPath()) {
            if (isLoop(around.getLeaf())) {
                return true;
            }
        }
        return false;
    }

    /** The methods and constructors in which a tree is worked; an object's first values belong to its constructors. */
    List<Element> workedIn(TreePath path) {
        for (TreePath around = path.getParentPath(); around != null; around = around.getParentPath()) {
            Tree tree = around.getLeaf();
            if (tree instanceof MethodTree) {
                return List.of(element(around));
            }
            if (tree instanceof VariableTree && around.getParentPath().getLeaf() instanceof ClassTree) {
                return element(around).getModifiers().contains(Modifier.STATIC) ? List.of()
                    : constructorsOf(element(around).getEnclosingElement());
            }
        }
        return List.of();
    }

    private static List<Element> constructorsOf(Element owner) {
        List<Element> found = new ArrayList<>();
        for (Element member : owner.getEnclosedElements()) {
            if (member.getKind() == ElementKind.CONSTRUCTOR) {
                found.add(member);
            }
        }
        return found;
    }

    /** Whether something was declared in this file. */
    boolean isOwn(Element element) {
        return trees.getPath(element) != null;
    }

    /** For each method and constructor of the file those that it calls, the library's too. */
    Map<Element, Set<Element>> calls() {
        Map<Element, Set<Element>> called = new LinkedHashMap<>();
        for (TreePath path : all(Tree.Kind.METHOD)) {
            called.put(element(path), new LinkedHashSet<>());
        }
        for (TreePath path : all(Tree.Kind.METHOD_INVOCATION, Tree.Kind.NEW_CLASS)) {
            for (Element caller : workedIn(path)) {
                called.get(caller).add(element(path));
            }
        }
        return called;
    }
}
