import com.sun.source.tree.ArrayAccessTree;
import com.sun.source.tree.BlockTree;
import com.sun.source.tree.ClassTree;
import com.sun.source.tree.CompilationUnitTree;
import com.sun.source.tree.ForLoopTree;
import com.sun.source.tree.ImportTree;
import com.sun.source.tree.MemberSelectTree;
import com.sun.source.tree.MethodInvocationTree;
import com.sun.source.tree.MethodTree;
import com.sun.source.tree.NewArrayTree;
import com.sun.source.tree.NewClassTree;
import com.sun.source.tree.Tree;
import com.sun.source.tree.VariableTree;
import com.sun.source.util.JavacTask;
import com.sun.source.util.TreeScanner;
import com.sun.source.util.Trees;
import java.io.IOException;
import java.util.ArrayList;
import java.util.Arrays;
import java.util.EnumSet;
import java.util.HashMap;
import java.util.HashSet;
import java.util.List;
import java.util.Map;
import java.util.Set;
import javax.lang.model.element.Modifier;
import javax.tools.JavaCompiler;
import javax.tools.StandardJavaFileManager;
import javax.tools.ToolProvider;

/** Rules of LANGUAGE.md that can be seen in the program's text; it is run in the project's folder. */
public final class RulesTest extends TreeScanner<Void, Void> {
    /** What the rules forbid, and loops, casts and texts, which the program does without. */
    private static final Set<Tree.Kind> FORBIDDEN = EnumSet.of(
            Tree.Kind.THROW, Tree.Kind.TRY, Tree.Kind.CATCH, Tree.Kind.SYNCHRONIZED, Tree.Kind.ASSERT,
            Tree.Kind.LAMBDA_EXPRESSION, Tree.Kind.MEMBER_REFERENCE, Tree.Kind.ANNOTATION, Tree.Kind.TYPE_CAST,
            Tree.Kind.WHILE_LOOP, Tree.Kind.DO_WHILE_LOOP, Tree.Kind.DIVIDE_ASSIGNMENT,
            Tree.Kind.REMAINDER_ASSIGNMENT, Tree.Kind.STRING_LITERAL);
    private static final Set<String> LIBRARY = Set.of(
            "Arrays.fill", "System.arraycopy", "Math.min", "Math.max");
    /** The one call that makes objects: a pipe. */
    private static final Set<String> MAKERS = Set.of("<init>", "pipe");

    private final Set<String> ownClasses = new HashSet<>();
    private final Map<String, Set<String>> callsOf = new HashMap<>();
    private final List<String> methods = new ArrayList<>();
    private CompilationUnitTree unit;
    private Trees trees;
    private String method = "<init>";
    private int loops = 0;

    public static void main(String[] args) throws IOException {
        new RulesTest().read();
        Runs.finish();
    }

    private void read() throws IOException {
        JavaCompiler compiler = ToolProvider.getSystemJavaCompiler();
        StandardJavaFileManager files = compiler.getStandardFileManager(null, null, null);
        JavacTask task = (JavacTask) compiler.getTask(null, files, null, null, null,
                files.getJavaFileObjects("src/main/java/SandKernel.java"));
        trees = Trees.instance(task);
        unit = task.parse().iterator().next();
        for (Class<?> inside : SandKernel.class.getDeclaredClasses()) {
            ownClasses.add(inside.getSimpleName());
        }
        Runs.isTrue("no package line", unit.getPackageName() == null);
        Runs.due("one class beside no other", unit.getTypeDecls().size(), 1);
        Runs.isTrue("rule 11: at most twelve classes", ownClasses.size() + 1 <= 12);
        scan(unit, null);
        for (String name : Kernel.CALLS) {
            Runs.isTrue("rules 8 and 11: " + name + " goes at most eight deep", depth(name, 0) <= 8);
        }
    }

    @Override
    public Void scan(Tree tree, Void none) {
        if (tree != null) {
            Runs.isTrue("rules 2 to 6 and 9: no " + tree.getKind(), !FORBIDDEN.contains(tree.getKind()));
        }
        return super.scan(tree, none);
    }

    @Override
    public Void visitImport(ImportTree tree, Void none) {
        Runs.isTrue("rule 4: " + tree, tree.toString().trim().equals("import java.util.Arrays;"));
        return null;
    }

    @Override
    public Void visitClass(ClassTree tree, Void none) {
        boolean isOutmost = tree.getSimpleName().contentEquals("SandKernel");
        Runs.isTrue("rule 2: " + tree.getSimpleName() + " has a name and stands in the class",
                isOutmost || ownClasses.contains(tree.getSimpleName().toString()));
        int fields = 0;
        for (Tree member : tree.getMembers()) {
            if (member instanceof VariableTree field) {
                boolean isStatic = field.getModifiers().getFlags().contains(Modifier.STATIC);
                fields += isStatic ? 0 : 1;
                Runs.isTrue("rule 5: " + field.getName() + " is a final int if it is static", !isStatic
                        || field.getModifiers().getFlags().contains(Modifier.FINAL) && field.getType().toString().equals("int"));
            }
            Runs.isTrue("rule 5: no static initialiser", !(member instanceof BlockTree));
        }
        Runs.isTrue("rule 11: at most twenty fields in " + tree.getSimpleName(), fields <= 20);
        return super.visitClass(tree, none);
    }

    @Override
    public Void visitVariable(VariableTree tree, Void none) {
        String type = tree.getType().toString();
        String plain = type.endsWith("[]") ? type.substring(0, type.length() - 2) : type;
        Runs.isTrue("rule 3: " + type + " " + tree.getName(),
                plain.equals("int") || plain.equals("boolean") || ownClasses.contains(plain));
        return super.visitVariable(tree, none);
    }

    @Override
    public Void visitMethod(MethodTree tree, Void none) {
        method = tree.getName().toString();
        boolean isFace = tree.getModifiers().getFlags().contains(Modifier.PUBLIC);
        Runs.isTrue("rule 1: " + method + " of a class inside, or a private one, has a name of its own",
                isFace || !Arrays.asList(Kernel.CALLS).contains(method));
        Runs.isTrue("rule 11: parameters of " + method, tree.getParameters().size() <= 7);
        long start = lineOf(trees.getSourcePositions().getStartPosition(unit, tree));
        long end = lineOf(trees.getSourcePositions().getEndPosition(unit, tree));
        Runs.isTrue("rule 11: " + method + " has some sixty lines at most", end - start < 60);
        methods.add(method);
        callsOf.putIfAbsent(method, new HashSet<>());
        super.visitMethod(tree, none);
        method = "<init>";
        return null;
    }

    private long lineOf(long position) {
        return unit.getLineMap().getLineNumber(position);
    }

    @Override
    public Void visitMethodInvocation(MethodInvocationTree tree, Void none) {
        Tree called = tree.getMethodSelect();
        String name = called instanceof MemberSelectTree select ? select.getIdentifier().toString() : called.toString();
        if (!LIBRARY.contains(called.toString()) && !name.equals("super")) {
            callsOf.computeIfAbsent(method, unused -> new HashSet<>()).add(name);
        }
        return super.visitMethodInvocation(tree, none);
    }

    /** How many calls stand open at once; methods of one name in several classes are taken for one. */
    private int depth(String name, int above) {
        Runs.isTrue("rule 4: " + name + " is a method of the program", methods.contains(name));
        int deepest = above + 1;
        if (above < 20) {
            for (String called : callsOf.getOrDefault(name, Set.of())) {
                deepest = Math.max(deepest, depth(called, above + 1));
            }
        }
        return deepest;
    }

    @Override
    public Void visitForLoop(ForLoopTree tree, Void none) {
        Runs.isTrue("rule 9: a counter against a bound in " + method, tree.getInitializer().size() == 1
                && tree.getCondition() != null && tree.getUpdate().size() == 1);
        loops++;
        super.visitForLoop(tree, none);
        loops--;
        return null;
    }

    @Override
    public Void visitNewClass(NewClassTree tree, Void none) {
        Runs.isTrue("rule 2: no anonymous class", tree.getClassBody() == null);
        Runs.isTrue("rule 3: new " + tree.getIdentifier(), ownClasses.contains(tree.getIdentifier().toString()));
        isMadeWhereItMay("new " + tree.getIdentifier());
        return super.visitNewClass(tree, none);
    }

    @Override
    public Void visitNewArray(NewArrayTree tree, Void none) {
        isMadeWhereItMay("new " + tree.getType() + "[]");
        return super.visitNewArray(tree, none);
    }

    private void isMadeWhereItMay(String what) {
        Runs.isTrue("rule 12: " + what + " in " + method, MAKERS.contains(method));
        Runs.isTrue("rule 12: " + what + " in a loop of " + method, loops == 0 || method.equals("<init>"));
    }

    @Override
    public Void visitArrayAccess(ArrayAccessTree tree, Void none) {
        Runs.isTrue("rule 3: arrays of one dimension", tree.getExpression().getKind() != Tree.Kind.ARRAY_ACCESS);
        return super.visitArrayAccess(tree, none);
    }
}
