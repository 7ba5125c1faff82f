import com.sun.source.tree.ArrayTypeTree;
import com.sun.source.tree.ClassTree;
import com.sun.source.tree.DoWhileLoopTree;
import com.sun.source.tree.ForLoopTree;
import com.sun.source.tree.MethodInvocationTree;
import com.sun.source.tree.MethodTree;
import com.sun.source.tree.NewArrayTree;
import com.sun.source.tree.NewClassTree;
import com.sun.source.tree.Tree;
import com.sun.source.tree.VariableTree;
import com.sun.source.tree.WhileLoopTree;
import com.sun.source.util.JavacTask;
import com.sun.source.util.TreePathScanner;
import com.sun.source.util.Trees;
import java.io.IOException;
import java.nio.file.Path;
import java.util.ArrayList;
import java.util.HashMap;
import java.util.List;
import java.util.Map;
import java.util.Set;
import java.util.TreeSet;
import javax.lang.model.element.Element;
import javax.lang.model.element.Modifier;
import javax.tools.JavaCompiler;
import javax.tools.StandardJavaFileManager;
import javax.tools.ToolProvider;

/**
 * What of ../shared/LANGUAGE.md can be seen in the compiler's tree alone: what calls what and how deep,
 * which of the library is used, of which types things are, where objects are made, how loops end.
 */
public final class CallsTest extends Bench {
    private static final Set<String> LIBRARY = Set.of("java.lang.Math.max(int,int)", "java.lang.Math.min(int,int)",
        "java.lang.Integer.bitCount(int)", "java.util.Arrays.fill(int[],int)",
        "java.lang.System.arraycopy(java.lang.Object,int,java.lang.Object,int,int)");
    /** Numbers, and the classes inside. */
    private static final Set<String> TYPES = new TreeSet<>(Set.of("int", "long", "boolean"));
    private static final int DEEPEST = 8;

    private static final Map<String, Set<String>> CALLED = new HashMap<>();
    private static final Set<String> PUBLIC = new TreeSet<>();
    private static final Set<String> REACHED = new TreeSet<>();

    public static void main(String[] args) throws IOException {
        where = "LANGUAGE.md";
        for (Class<?> inside : SetAsMeant.class.getDeclaredClasses()) {
            TYPES.add(inside.getSimpleName());
        }
        JavaCompiler compiler = ToolProvider.getSystemJavaCompiler();
        try (StandardJavaFileManager files = compiler.getStandardFileManager(null, null, null)) {
            JavacTask task = (JavacTask) compiler.getTask(null, files, null, List.of("-proc:none"), null,
                files.getJavaFileObjects(Path.of("src/main/java/SetAsMeant.java")));
            List<Tree> units = new ArrayList<>();
            task.parse().forEach(units::add);
            task.analyze();
            Eye eye = new Eye(Trees.instance(task));
            units.forEach(unit -> eye.scan(unit, null));
        }
        due("public calls", PUBLIC.size(), 46 + 1);
        for (String method : PUBLIC) {
            int depth = depth(method, new ArrayList<>());
            if (depth > DEEPEST) {
                say("rule 11: " + method + " goes " + depth + " deep");
            }
        }
        for (String method : CALLED.keySet()) {
            if (!REACHED.contains(method)) {
                say(method + " is never called");
            }
        }
        end();
    }

    /** How many calls stand open at once below a method, it among them. */
    private static int depth(String method, List<String> open) {
        REACHED.add(method);
        if (open.contains(method)) {
            say("rule 8: " + method + " calls itself, by " + open);
            return 0;
        }
        open.add(method);
        int deepest = 0;
        for (String called : CALLED.getOrDefault(method, Set.of())) {
            deepest = Math.max(deepest, depth(called, open));
        }
        open.remove(open.size() - 1);
        return deepest + 1;
    }

    private static final class Eye extends TreePathScanner<Void, Void> {
        private final Trees trees;
        /** Empty outside of methods: there a class's fields are made, which its constructor does. */
        private String method = "";
        private String inside = "";

        Eye(Trees trees) {
            this.trees = trees;
        }

        private static boolean isOwn(String name) {
            return name.startsWith("SetAsMeant");
        }

        private static String name(Element element) {
            return element.getEnclosingElement() + "." + element;
        }

        private void calls(Element called) {
            if (called == null) {
                say("a call of nothing that is known");
            } else if (!isOwn(name(called))) {
                due("rule 4: " + name(called) + " is in the library's list", LIBRARY.contains(name(called))
                    || name(called).equals("java.lang.Object.Object()") ? 1 : 0, 1);
            } else {
                CALLED.computeIfAbsent(method.isEmpty() ? inside : method, m -> new TreeSet<>()).add(name(called));
            }
        }

        @Override
        public Void visitClass(ClassTree tree, Void none) {
            String before = inside;
            String name = trees.getElement(getCurrentPath()).toString();
            inside = name + "." + name.substring(name.lastIndexOf('.') + 1) + "()";
            super.visitClass(tree, none);
            inside = before;
            return null;
        }

        @Override
        public Void visitMethod(MethodTree tree, Void none) {
            Element element = trees.getElement(getCurrentPath());
            String before = method;
            method = name(element);
            CALLED.computeIfAbsent(method, m -> new TreeSet<>());
            if (element.getModifiers().contains(Modifier.PUBLIC)) {
                PUBLIC.add(method);
            }
            super.visitMethod(tree, none);
            method = before;
            return null;
        }

        @Override
        public Void visitMethodInvocation(MethodInvocationTree tree, Void none) {
            calls(trees.getElement(getCurrentPath()));
            return super.visitMethodInvocation(tree, none);
        }

        @Override
        public Void visitNewClass(NewClassTree tree, Void none) {
            calls(trees.getElement(getCurrentPath()));
            onlyInConstructors("an object");
            return super.visitNewClass(tree, none);
        }

        @Override
        public Void visitNewArray(NewArrayTree tree, Void none) {
            onlyInConstructors("an array");
            return super.visitNewArray(tree, none);
        }

        private void onlyInConstructors(String what) {
            String call = method.isEmpty() ? inside : method;
            String owner = call.substring(0, call.indexOf('(')).replaceAll("\\.[^.]*$", "");
            String constructor = owner + "." + owner.substring(owner.lastIndexOf('.') + 1) + "(";
            due("rule 12: " + call + " makes " + what, call.startsWith(constructor) ? 0 : 1, 0);
        }

        @Override
        public Void visitVariable(VariableTree tree, Void none) {
            Tree type = tree.getType();
            if (type instanceof ArrayTypeTree of) {
                type = of.getType();
            }
            due("rule 3: the type of " + tree, TYPES.contains(type.toString()) ? 1 : 0, 1);
            return super.visitVariable(tree, none);
        }

        @Override
        public Void visitForLoop(ForLoopTree tree, Void none) {
            due("rule 9: a counter against a bound in " + method, tree.getCondition() == null
                || tree.getUpdate().isEmpty() ? 0 : 1, 1);
            return super.visitForLoop(tree, none);
        }

        @Override
        public Void visitWhileLoop(WhileLoopTree tree, Void none) {
            say("rule 9: a while without a counter of its own in " + method);
            return super.visitWhileLoop(tree, none);
        }

        @Override
        public Void visitDoWhileLoop(DoWhileLoopTree tree, Void none) {
            say("rule 9: a do without a counter of its own in " + method);
            return super.visitDoWhileLoop(tree, none);
        }
    }
}
