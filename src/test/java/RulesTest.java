import com.sun.source.tree.AssertTree;
import com.sun.source.tree.BinaryTree;
import com.sun.source.tree.ClassTree;
import com.sun.source.tree.CompilationUnitTree;
import com.sun.source.tree.LambdaExpressionTree;
import com.sun.source.tree.MemberReferenceTree;
import com.sun.source.tree.MethodInvocationTree;
import com.sun.source.tree.MethodTree;
import com.sun.source.tree.NewArrayTree;
import com.sun.source.tree.NewClassTree;
import com.sun.source.tree.SynchronizedTree;
import com.sun.source.tree.ThrowTree;
import com.sun.source.tree.Tree;
import com.sun.source.tree.TryTree;
import com.sun.source.tree.VariableTree;
import com.sun.source.util.JavacTask;
import com.sun.source.util.TreePathScanner;
import com.sun.source.util.Trees;
import java.nio.file.Path;
import java.util.HashMap;
import java.util.HashSet;
import java.util.List;
import java.util.Map;
import java.util.Set;
import java.util.TreeSet;
import javax.lang.model.element.Element;
import javax.lang.model.element.ElementKind;
import javax.lang.model.element.Modifier;
import javax.lang.model.element.VariableElement;
import javax.tools.JavaCompiler;
import javax.tools.StandardJavaFileManager;
import javax.tools.ToolProvider;

/** Rules of LANGUAGE.md that need the compiler's own reading of it: 2, 4, 5, 6, 8, 11, 12. */
public final class RulesTest extends TreePathScanner<Void, Void> {
    private static final Checks CHECKS = new Checks("RulesTest");
    private static final Path SOURCE = Path.of("src/main/java/ZigzagLines.java");
    private static final int MOST_DEEP = 8;
    private static final int MOST_LINES = 60;
    private static final int MOST_PARAMETERS = 7;
    private static final int MOST_CLASSES = 12;
    private static final int MOST_FIELDS = 20;

    /** What the class uses of the library, all of it in rule 4. */
    private static final Set<String> LIBRARY = Set.of("java.lang.String.length",
            "java.lang.String.charAt", "java.lang.System.arraycopy", "java.lang.Math.max",
            "java.lang.Math.min", "java.lang.Integer.bitCount", "java.lang.Object.<init>");

    private final Trees trees;
    private final CompilationUnitTree unit;
    private final Map<Element, Set<Element>> calls = new HashMap<>();
    private final Map<String, Integer> fields = new HashMap<>();
    private final Set<String> classes = new TreeSet<>();
    private Element caller;

    private RulesTest(Trees trees, CompilationUnitTree unit) {
        this.trees = trees;
        this.unit = unit;
    }

    public static void main(String[] args) throws Exception {
        JavaCompiler compiler = ToolProvider.getSystemJavaCompiler();
        try (StandardJavaFileManager files = compiler.getStandardFileManager(null, null, null)) {
            JavacTask task = (JavacTask) compiler.getTask(null, files, null, List.of("-proc:none"),
                    null, files.getJavaFileObjects(SOURCE));
            CompilationUnitTree unit = task.parse().iterator().next();
            task.analyze();
            RulesTest rules = new RulesTest(Trees.instance(task), unit);
            rules.scan(unit, null);
            rules.judge();
        }
        CHECKS.end();
    }

    private void judge() {
        CHECKS.due("imports", unit.getImports().size(), 0);
        CHECKS.due("types beside the class", unit.getTypeDecls().size(), 1);
        atMost("classes " + classes, classes.size(), MOST_CLASSES);
        for (Map.Entry<String, Integer> count : fields.entrySet()) {
            atMost("fields of " + count.getKey(), count.getValue(), MOST_FIELDS);
        }
        int deepest = 0;
        for (Element method : calls.keySet()) {
            deepest = Math.max(deepest, depth(method, new HashSet<>()));
        }
        atMost("calls that stand open at once", deepest, MOST_DEEP);
        CHECKS.due("the call graph was read", deepest > 3 ? 1 : 0, 1);
    }

    /** How many methods of the class stand open at once, this one among them. */
    private int depth(Element method, Set<Element> open) {
        if (!open.add(method)) {
            CHECKS.due(method + " calls itself", 1, 0);
            return 1;
        }
        int below = 0;
        for (Element called : calls.getOrDefault(method, Set.of())) {
            if (calls.containsKey(called)) {
                below = Math.max(below, depth(called, open));
            }
        }
        open.remove(method);
        return below + 1;
    }

    private static void atMost(String what, int number, int most) {
        CHECKS.due(what + ": at most " + most, Math.max(number, most), most);
    }

    private void never(String what, Tree tree) {
        long line = unit.getLineMap().getLineNumber(
                trees.getSourcePositions().getStartPosition(unit, tree));
        CHECKS.due("line " + line + " has " + what, 1, 0);
    }

    // ---- what the source has

    @Override
    public Void visitClass(ClassTree tree, Void none) {
        Element type = trees.getElement(getCurrentPath());
        boolean outer = type.getEnclosingElement().getKind() == ElementKind.PACKAGE;
        boolean inside = type.getEnclosingElement().getKind() == ElementKind.CLASS
                && type.getModifiers().contains(Modifier.STATIC);
        if (!outer && !inside) {
            never("a class that is not static", tree);
        }
        classes.add(type.toString());
        for (Tree member : tree.getMembers()) {
            if (member.getKind() == Tree.Kind.BLOCK) {
                never("an initialiser block", member);
            }
        }
        return super.visitClass(tree, none);
    }

    @Override
    public Void visitVariable(VariableTree tree, Void none) {
        Element element = trees.getElement(getCurrentPath());
        if (element.getKind() == ElementKind.FIELD) {
            boolean constant = ((VariableElement) element).getConstantValue() != null;
            if (element.getModifiers().contains(Modifier.STATIC) && !constant) {
                never("a static field that is no constant", tree);
            }
            if (!constant) {
                fields.merge(element.getEnclosingElement().toString(), 1, Integer::sum);
            }
        }
        return super.visitVariable(tree, none);
    }

    @Override
    public Void visitMethod(MethodTree tree, Void none) {
        caller = trees.getElement(getCurrentPath());
        calls.put(caller, new HashSet<>());
        atMost("parameters of " + caller, tree.getParameters().size(), MOST_PARAMETERS);
        long start = trees.getSourcePositions().getStartPosition(unit, tree);
        long end = trees.getSourcePositions().getEndPosition(unit, tree);
        if (end >= 0) {
            long lines = unit.getLineMap().getLineNumber(end)
                    - unit.getLineMap().getLineNumber(start) + 1;
            atMost("lines of " + caller, (int) lines, MOST_LINES);
        }
        super.visitMethod(tree, none);
        caller = null;
        return null;
    }

    @Override
    public Void visitMethodInvocation(MethodInvocationTree tree, Void none) {
        call(trees.getElement(getCurrentPath()));
        return super.visitMethodInvocation(tree, none);
    }

    @Override
    public Void visitNewClass(NewClassTree tree, Void none) {
        if (tree.getClassBody() != null) {
            never("an anonymous class", tree);
        }
        onlyInConstructors(tree);
        call(trees.getElement(getCurrentPath()));
        return super.visitNewClass(tree, none);
    }

    @Override
    public Void visitNewArray(NewArrayTree tree, Void none) {
        onlyInConstructors(tree);
        return super.visitNewArray(tree, none);
    }

    /** Rule 12 counts what a run makes; the class makes all in constructors, as README.md says. */
    private void onlyInConstructors(Tree made) {
        if (caller != null && caller.getKind() != ElementKind.CONSTRUCTOR) {
            never("an object that is made outside a constructor", made);
        }
    }

    private void call(Element called) {
        String owner = called.getEnclosingElement().toString();
        if (owner.equals("ZigzagLines") || owner.startsWith("ZigzagLines.")) {
            if (caller != null) {
                calls.get(caller).add(called);
            }
            return;
        }
        String name = owner + "." + called.getSimpleName();
        CHECKS.due("the library has " + name, LIBRARY.contains(name) ? 1 : 0, 1);
    }

    @Override
    public Void visitBinary(BinaryTree tree, Void none) {
        if (tree.getKind() == Tree.Kind.PLUS
                && trees.getTypeMirror(getCurrentPath()).toString().equals("java.lang.String")) {
            never("texts joined by +", tree);
        }
        return super.visitBinary(tree, none);
    }

    @Override
    public Void visitLambdaExpression(LambdaExpressionTree tree, Void none) {
        never("a lambda", tree);
        return null;
    }

    @Override
    public Void visitMemberReference(MemberReferenceTree tree, Void none) {
        never("a method reference", tree);
        return null;
    }

    @Override
    public Void visitTry(TryTree tree, Void none) {
        never("try", tree);
        return null;
    }

    @Override
    public Void visitThrow(ThrowTree tree, Void none) {
        never("throw", tree);
        return null;
    }

    @Override
    public Void visitSynchronized(SynchronizedTree tree, Void none) {
        never("synchronized", tree);
        return null;
    }

    @Override
    public Void visitAssert(AssertTree tree, Void none) {
        never("assert", tree);
        return null;
    }
}
