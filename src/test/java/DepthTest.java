import com.sun.source.tree.CompilationUnitTree;
import com.sun.source.tree.ExpressionTree;
import com.sun.source.tree.MemberSelectTree;
import com.sun.source.tree.MethodInvocationTree;
import com.sun.source.tree.MethodTree;
import com.sun.source.tree.NewClassTree;
import com.sun.source.tree.Tree;
import com.sun.source.util.JavacTask;
import com.sun.source.util.TreePath;
import com.sun.source.util.TreePathScanner;
import com.sun.source.util.Trees;
import java.nio.file.Path;
import java.util.ArrayList;
import java.util.HashMap;
import java.util.LinkedHashMap;
import java.util.LinkedHashSet;
import java.util.List;
import java.util.Map;
import java.util.Set;
import javax.lang.model.element.Element;
import javax.lang.model.element.ElementKind;
import javax.lang.model.element.ExecutableElement;
import javax.lang.model.element.Modifier;
import javax.lang.model.element.TypeElement;
import javax.lang.model.type.DeclaredType;
import javax.tools.JavaCompiler;
import javax.tools.StandardJavaFileManager;
import javax.tools.ToolProvider;

/** LANGUAGE.md, rule 11: calls that are no recursion go at most eight deep. Read off the compiler's own trees. */
final class DepthTest {
    private static final int MOST = 8;

    /** A call in a method's body: of what, and how its receiver is written. */
    private record Call(ExecutableElement of, boolean onSuper, boolean onThis, TypeElement type) {
    }

    /** A method as it runs for objects of a class, or a static one, or a constructor. */
    private record Node(ExecutableElement method, TypeElement of) {
    }

    private final Map<ExecutableElement, List<Call>> calls = new LinkedHashMap<>();
    private final Set<TypeElement> classes = new LinkedHashSet<>();
    private final Map<Node, Set<Node>> graph = new LinkedHashMap<>();
    private final Map<Node, Set<Node>> reached = new HashMap<>();
    private final Map<Node, List<Node>> longest = new HashMap<>();

    public static void main(String[] args) throws Exception {
        DepthTest test = new DepthTest();
        test.read(Path.of("src/main/java/EmptyLand.java"));
        List<Node> most = new ArrayList<>();
        for (ExecutableElement method : test.calls.keySet()) {
            if (method.getModifiers().contains(Modifier.PUBLIC)) {
                List<Node> path = test.longestFrom(new Node(method, (TypeElement) method.getEnclosingElement()));
                most = path.size() > most.size() ? path : most;
            }
        }
        StringBuilder told = new StringBuilder();
        for (Node node : most) {
            told.append(told.length() == 0 ? "" : " - ").append(node.method.getEnclosingElement().getSimpleName()).append('.')
                .append(node.method.getSimpleName());
        }
        System.out.println(most.size() + " deep: " + told);
        if (most.size() > MOST || most.size() < 2) {
            System.exit(1);
        }
    }

    private void read(Path file) throws Exception {
        JavaCompiler compiler = ToolProvider.getSystemJavaCompiler();
        try (StandardJavaFileManager files = compiler.getStandardFileManager(null, null, null)) {
            JavacTask task = (JavacTask) compiler.getTask(null, files, null, List.of("-proc:none"), null,
                files.getJavaFileObjects(file));
            Iterable<? extends CompilationUnitTree> units = task.parse();
            task.analyze();
            Scanner scanner = new Scanner(Trees.instance(task));
            for (CompilationUnitTree unit : units) {
                scanner.scan(unit, null);
            }
        }
    }

    private final class Scanner extends TreePathScanner<Void, Void> {
        private final Trees trees;
        private ExecutableElement method;

        Scanner(Trees trees) {
            this.trees = trees;
        }

        @Override
        public Void visitMethod(MethodTree tree, Void none) {
            method = (ExecutableElement) trees.getElement(getCurrentPath());
            calls.put(method, new ArrayList<>());
            classes.add((TypeElement) method.getEnclosingElement());
            super.visitMethod(tree, none);
            method = null;
            return null;
        }

        @Override
        public Void visitMethodInvocation(MethodInvocationTree tree, Void none) {
            ExpressionTree select = tree.getMethodSelect();
            boolean named = select.getKind() == Tree.Kind.MEMBER_SELECT;
            String receiver = named ? ((MemberSelectTree) select).getExpression().toString() : "this";
            add(trees.getElement(new TreePath(getCurrentPath(), select)), receiver);
            return super.visitMethodInvocation(tree, none);
        }

        @Override
        public Void visitNewClass(NewClassTree tree, Void none) {
            add(trees.getElement(getCurrentPath()), "new");
            return super.visitNewClass(tree, none);
        }

        private void add(Element called, String receiver) {
            if (method != null && called instanceof ExecutableElement of) {
                calls.get(method).add(new Call(of, receiver.equals("super"), receiver.equals("this"),
                    (TypeElement) of.getEnclosingElement()));
            }
        }
    }

    private static TypeElement above(TypeElement type) {
        return type.getSuperclass() instanceof DeclaredType declared ? (TypeElement) declared.asElement() : null;
    }

    private static boolean isUnder(TypeElement type, TypeElement top) {
        for (TypeElement one = type; one != null; one = above(one)) {
            if (one.equals(top)) {
                return true;
            }
        }
        return false;
    }

    /** The method of this name that an object has from a class on upwards. */
    private ExecutableElement from(TypeElement type, ExecutableElement like) {
        for (TypeElement one = type; one != null; one = above(one)) {
            for (ExecutableElement method : calls.keySet()) {
                if (method.getEnclosingElement().equals(one) && method.getSimpleName().equals(like.getSimpleName())
                    && method.getParameters().size() == like.getParameters().size()) {
                    return method;
                }
            }
        }
        return null;
    }

    private Set<Node> targets(Node node) {
        return graph.computeIfAbsent(node, this::findTargets);
    }

    private Set<Node> findTargets(Node node) {
        Set<Node> found = new LinkedHashSet<>();
        for (Call call : calls.getOrDefault(node.method, List.of())) {
            boolean isPlain = call.of.getModifiers().contains(Modifier.STATIC) || call.of.getKind() == ElementKind.CONSTRUCTOR;
            if (isPlain) {
                add(found, call.of, call.type);
            } else if (call.onSuper) {
                add(found, from(above((TypeElement) node.method.getEnclosingElement()), call.of), node.of);
            } else if (call.onThis) {
                add(found, from(node.of, call.of), node.of);
            } else {
                for (TypeElement type : classes) {
                    if (isUnder(type, call.type)) {
                        add(found, from(type, call.of), type);
                    }
                }
            }
        }
        return found;
    }

    private void add(Set<Node> found, ExecutableElement method, TypeElement of) {
        if (method != null && calls.containsKey(method)) {
            found.add(new Node(method, of));
        }
    }

    private Set<Node> reachedFrom(Node start) {
        Set<Node> seen = reached.get(start);
        if (seen == null) {
            seen = new LinkedHashSet<>();
            List<Node> open = new ArrayList<>(targets(start));
            while (!open.isEmpty()) {
                Node next = open.remove(open.size() - 1);
                if (seen.add(next)) {
                    open.addAll(targets(next));
                }
            }
            reached.put(start, seen);
        }
        return seen;
    }

    /** Methods that call one another are one level together: rule 8 is about them. */
    private List<Node> longestFrom(Node node) {
        List<Node> known = longest.get(node);
        if (known != null) {
            return known;
        }
        Set<Node> circle = new LinkedHashSet<>(List.of(node));
        for (Node other : reachedFrom(node)) {
            if (reachedFrom(other).contains(node)) {
                circle.add(other);
            }
        }
        List<Node> best = new ArrayList<>();
        for (Node member : circle) {
            for (Node next : targets(member)) {
                if (!circle.contains(next) && longestFrom(next).size() > best.size()) {
                    best = longestFrom(next);
                }
            }
        }
        List<Node> path = new ArrayList<>(List.of(node));
        path.addAll(best);
        longest.put(node, path);
        return path;
    }
}
