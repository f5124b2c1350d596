import com.sun.source.tree.ClassTree;
import com.sun.source.tree.CompilationUnitTree;
import com.sun.source.tree.MethodInvocationTree;
import com.sun.source.tree.MethodTree;
import com.sun.source.tree.NewClassTree;
import com.sun.source.util.JavacTask;
import com.sun.source.util.TreePathScanner;
import com.sun.source.util.Trees;
import java.io.File;
import java.io.IOException;
import java.util.HashSet;
import java.util.List;
import java.util.Map;
import java.util.Set;
import java.util.TreeMap;
import java.util.TreeSet;
import javax.lang.model.element.Element;
import javax.lang.model.element.ExecutableElement;
import javax.lang.model.element.Modifier;
import javax.tools.JavaCompiler;
import javax.tools.StandardJavaFileManager;
import javax.tools.ToolProvider;

/**
 * Rules 8 and 11 of LANGUAGE.md: calls that are no recursion go at most eight deep, and what recurs carries its depth.
 * javac itself reads the source. Calls of a CAUSE's own methods go where its KIND has them, so each KIND is gone
 * through by itself; calls of the library count nothing.
 */
public final class CallDepthTest {
    private static final int MOST_DEEP = 8;
    private static final String[] KINDS = {"Cause", "Tips", "Side", "Ringed", "Salted", "Leaning", "Forked"};

    /** Method ("Class.name") to the methods that it calls; a '*' ahead: the one that the KIND at hand has. */
    private final Map<String, Set<String>> calls = new TreeMap<>();
    private final Map<String, String> above = new TreeMap<>();
    private final Map<String, String> parameters = new TreeMap<>();
    private final Set<String> face = new TreeSet<>();

    private static String nameOf(Element method) {
        return method.getEnclosingElement().getSimpleName() + "." + method.getSimpleName();
    }

    private final class Reader extends TreePathScanner<Void, String> {
        private final Trees trees;

        Reader(Trees trees) {
            this.trees = trees;
        }

        @Override
        public Void visitClass(ClassTree tree, String in) {
            if (tree.getExtendsClause() != null) {
                above.put(tree.getSimpleName().toString(), tree.getExtendsClause().toString());
            }
            return super.visitClass(tree, in);
        }

        @Override
        public Void visitMethod(MethodTree tree, String in) {
            Element method = trees.getElement(getCurrentPath());
            String name = nameOf(method);
            Checks.holds(name + " is the only one of its name", calls.put(name, new TreeSet<>()) == null);
            parameters.put(name, tree.getParameters().toString());
            if (method.getModifiers().contains(Modifier.PUBLIC)) {
                face.add(name);
            }
            return super.visitMethod(tree, name);
        }

        @Override
        public Void visitMethodInvocation(MethodInvocationTree tree, String in) {
            note(in, trees.getElement(getCurrentPath()), tree.getMethodSelect().toString().startsWith("super"));
            return super.visitMethodInvocation(tree, in);
        }

        @Override
        public Void visitNewClass(NewClassTree tree, String in) {
            note(in, trees.getElement(getCurrentPath()), true);
            return super.visitNewClass(tree, in);
        }

        private void note(String in, Element called, boolean exact) {
            if (in == null || !(called instanceof ExecutableElement)) {
                return;
            }
            boolean free = !exact && List.of(KINDS).contains(called.getEnclosingElement().getSimpleName().toString());
            calls.get(in).add((free ? "*" : "") + nameOf(called));
        }
    }

    private void read() throws IOException {
        JavaCompiler javac = ToolProvider.getSystemJavaCompiler();
        try (StandardJavaFileManager files = javac.getStandardFileManager(null, null, null)) {
            JavacTask task = (JavacTask) javac.getTask(null, files, null, null, null,
                files.getJavaFileObjects(new File("src/main/java/IcicleRings.java")));
            Iterable<? extends CompilationUnitTree> units = task.parse();
            task.analyze();
            for (CompilationUnitTree unit : units) {
                new Reader(Trees.instance(task)).scan(unit, null);
            }
        }
    }

    /** Where a call goes for a KIND: up from it to the first class that has the method; null: the library. */
    private String meant(String called, String kind) {
        boolean free = called.startsWith("*");
        String name = called.substring(called.indexOf('.') + 1);
        String at = free ? kind : called.substring(0, called.indexOf('.'));
        while (at != null && !calls.containsKey(at + "." + name)) {
            at = above.get(at);
        }
        return at == null ? null : at + "." + name;
    }

    private void reach(String from, String kind, Set<String> into) {
        for (String called : calls.get(from)) {
            String to = meant(called, kind);
            if (to != null && into.add(to)) {
                reach(to, kind, into);
            }
        }
    }

    private boolean recurs(String one, String other, String kind) {
        Set<String> fromOne = new HashSet<>();
        Set<String> fromOther = new HashSet<>();
        reach(one, kind, fromOne);
        reach(other, kind, fromOther);
        return fromOne.contains(other) && fromOther.contains(one);
    }

    /** How many calls stand one in the other, recursions among methods that call one another counted once. */
    private int depth(String from, String kind, Set<String> recurring) {
        int most = 0;
        for (String called : calls.get(from)) {
            String to = meant(called, kind);
            if (to == null || recurring.contains(to)) {
                continue;
            }
            if (recurs(from, to, kind)) {
                Set<String> more = new HashSet<>(recurring);
                more.add(from);
                more.add(to);
                most = Math.max(most, depth(to, kind, more) - 1);
            } else {
                most = Math.max(most, depth(to, kind, new HashSet<>()));
            }
        }
        return most + 1;
    }

    public static void main(String[] args) throws IOException {
        CallDepthTest test = new CallDepthTest();
        test.read();
        Checks.due("public members", test.face.size(), 43);
        for (String kind : KINDS) {
            for (String name : test.face) {
                int deep = test.depth(name, kind, new HashSet<>());
                Checks.holds(name + " goes " + deep + " calls deep with a " + kind + ": at most " + MOST_DEEP,
                    deep <= MOST_DEEP);
            }
            for (String name : test.calls.keySet()) {
                Checks.holds(name + " carries its depth if it recurs",
                    !test.recurs(name, name, kind) || test.parameters.get(name).contains("int open"));
            }
        }
        Checks.end();
    }
}
