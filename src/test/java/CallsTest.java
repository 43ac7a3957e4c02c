import com.sun.source.tree.CompilationUnitTree;
import com.sun.source.tree.MethodInvocationTree;
import com.sun.source.tree.MethodTree;
import com.sun.source.tree.NewArrayTree;
import com.sun.source.tree.NewClassTree;
import com.sun.source.tree.Tree;
import com.sun.source.util.JavacTask;
import com.sun.source.util.SourcePositions;
import com.sun.source.util.TreePath;
import com.sun.source.util.TreePathScanner;
import com.sun.source.util.Trees;
import java.io.IOException;
import java.nio.file.Path;
import java.util.HashSet;
import java.util.LinkedHashMap;
import java.util.LinkedHashSet;
import java.util.List;
import java.util.Map;
import java.util.Set;
import javax.lang.model.element.Element;
import javax.lang.model.element.ElementKind;
import javax.lang.model.element.Modifier;
import javax.lang.model.util.Elements;
import javax.tools.JavaCompiler;
import javax.tools.StandardJavaFileManager;
import javax.tools.ToolProvider;

/**
 * Rules 4, 8, 11 and 12 of LANGUAGE.md, by the compiler's own tree of the source: which library is
 * called, how deep calls go, how long methods are, and that only constructors make objects.
 */
public final class CallsTest extends TreePathScanner<Void, Element> {
    private static final Check CHECK = new Check("CallsTest");
    private static final int DEPTH = 8;
    private static final int LENGTH = 60;
    private static final Set<String> LIBRARY = Set.of("java.lang.String.length()", "java.lang.String.charAt(int)",
        "java.lang.Math.max(int,int)", "java.lang.Long.bitCount(long)",
        "java.lang.System.arraycopy(java.lang.Object,int,java.lang.Object,int,int)", "java.lang.Object.Object()");

    private final Trees trees;
    private final CompilationUnitTree unit;
    private final Map<Element, Set<Element>> calls = new LinkedHashMap<>();

    private CallsTest(Trees trees, CompilationUnitTree unit) {
        this.trees = trees;
        this.unit = unit;
    }

    public static void main(String[] args) throws IOException {
        JavaCompiler compiler = ToolProvider.getSystemJavaCompiler();
        StandardJavaFileManager files = compiler.getStandardFileManager(null, null, null);
        JavacTask task = (JavacTask) compiler.getTask(null, files, null, List.of("-proc:none"), null,
            files.getJavaFileObjects(Path.of("src/main/java/VerbSchool.java")));
        CompilationUnitTree unit = task.parse().iterator().next();
        task.analyze();
        CallsTest test = new CallsTest(Trees.instance(task), unit);
        test.scan(unit, null);
        test.library(task.getElements());
        test.depth();
        CHECK.finish();
    }

    @Override
    public Void visitMethod(MethodTree tree, Element outer) {
        Element method = trees.getElement(getCurrentPath());
        calls.put(method, new LinkedHashSet<>());
        SourcePositions at = trees.getSourcePositions();
        long first = unit.getLineMap().getLineNumber(at.getStartPosition(unit, tree));
        long last = unit.getLineMap().getLineNumber(Math.max(at.getStartPosition(unit, tree), at.getEndPosition(unit, tree)));
        CHECK.due(method + " is short", last - first < LENGTH ? 0 : last - first, 0);
        CHECK.due(method + " has few parameters", tree.getParameters().size() <= 7 ? 0 : 1, 0);
        return super.visitMethod(tree, method);
    }

    @Override
    public Void visitMethodInvocation(MethodInvocationTree tree, Element method) {
        note(method, trees.getElement(new TreePath(getCurrentPath(), tree.getMethodSelect())));
        return super.visitMethodInvocation(tree, method);
    }

    @Override
    public Void visitNewClass(NewClassTree tree, Element method) {
        note(method, trees.getElement(getCurrentPath()));
        madeIn(method, tree);
        return super.visitNewClass(tree, method);
    }

    @Override
    public Void visitNewArray(NewArrayTree tree, Element method) {
        madeIn(method, tree);
        return super.visitNewArray(tree, method);
    }

    private void note(Element method, Element called) {
        if (method == null || called == null) {
            CHECK.due("a call outside of methods", 1, 0);
        } else {
            calls.get(method).add(called);
        }
    }

    private void madeIn(Element method, Tree tree) {
        boolean making = method != null && method.getKind() == ElementKind.CONSTRUCTOR;
        CHECK.due(method + " makes " + tree, making ? 1 : 0, 1);
    }

    private void library(Elements elements) {
        for (Map.Entry<Element, Set<Element>> row : calls.entrySet()) {
            for (Element called : row.getValue()) {
                String name = called.getEnclosingElement() + "." + called;
                boolean own = elements.getPackageOf(called).isUnnamed();
                CHECK.due(row.getKey() + " calls " + name, own || LIBRARY.contains(name) ? 1 : 0, 1);
            }
        }
    }

    private void depth() {
        int open = 0;
        for (Element method : calls.keySet()) {
            if (method.getModifiers().contains(Modifier.PUBLIC)) {
                open++;
                int deep = depthOf(method, new HashSet<>());
                CHECK.due(method + " goes at most " + DEPTH + " deep", deep <= DEPTH ? 0 : deep, 0);
            }
        }
        CHECK.due("public methods and the constructor", open, 20);
    }

    /** Of calls within the file; a library's call is no level of its own. */
    private int depthOf(Element method, Set<Element> standing) {
        if (!calls.containsKey(method)) {
            return 0;
        }
        if (!standing.add(method)) {
            CHECK.due(method + " calls itself", 1, 0);
            return 0;
        }
        int most = 0;
        for (Element called : calls.get(method)) {
            most = Math.max(most, depthOf(called, standing));
        }
        standing.remove(method);
        return most + 1;
    }
}
