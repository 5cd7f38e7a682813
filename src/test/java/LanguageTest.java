import com.sun.source.tree.BlockTree;
import com.sun.source.tree.ClassTree;
import com.sun.source.tree.CompilationUnitTree;
import com.sun.source.tree.ForLoopTree;
import com.sun.source.tree.ImportTree;
import com.sun.source.tree.MethodInvocationTree;
import com.sun.source.tree.MethodTree;
import com.sun.source.tree.NewArrayTree;
import com.sun.source.tree.NewClassTree;
import com.sun.source.tree.ThrowTree;
import com.sun.source.tree.Tree;
import com.sun.source.tree.VariableTree;
import com.sun.source.util.JavacTask;
import com.sun.source.util.SourcePositions;
import com.sun.source.util.TreeScanner;
import com.sun.source.util.Trees;
import java.io.IOException;
import java.nio.file.Path;
import java.util.HashMap;
import java.util.HashSet;
import java.util.Map;
import java.util.Set;
import java.util.TreeSet;
import javax.lang.model.element.Modifier;
import javax.tools.JavaCompiler;
import javax.tools.StandardJavaFileManager;
import javax.tools.ToolProvider;

/**
 * The rules of LANGUAGE.md that can be seen from the program's text; it is stricter than they are
 * where the program is, as in making no objects but in constructors.
 */
public final class LanguageTest extends TreeScanner<Void, Void> {
    private static final Path PROGRAM = Path.of("src/main/java/ChallengeAuthority.java");
    private static final Set<String> EXCEPTIONS = Set.of(
            "IllegalStateException", "IllegalArgumentException", "UnsupportedOperationException",
            "NoSuchElementException");
    private static final Set<String> LIBRARY = Set.of("Integer.bitCount");
    private static final Map<Tree.Kind, String> OUTSIDE = Map.of(
            Tree.Kind.LAMBDA_EXPRESSION, "rule 2: no lambda",
            Tree.Kind.MEMBER_REFERENCE, "rule 2: no method reference",
            Tree.Kind.TRY, "rule 6: the program catches nothing",
            Tree.Kind.ASSERT, "rule 6: no assert",
            Tree.Kind.SYNCHRONIZED, "rule 6: no synchronized",
            Tree.Kind.WHILE_LOOP, "rule 9: every loop of the program is a for",
            Tree.Kind.DO_WHILE_LOOP, "rule 9: every loop of the program is a for");
    private static final int MAX_CLASSES = 12;
    private static final int MAX_FIELDS = 20;
    private static final int MAX_PARAMETERS = 7;
    private static final int MAX_LINES = 60;
    private static final int MAX_DEPTH = 8;

    private final CompilationUnitTree unit;
    private final SourcePositions positions;
    /** For each method, by name, the names of those that it calls. */
    private final Map<String, Set<String>> calls = new HashMap<>();
    private int classes;
    private MethodTree within;

    private LanguageTest(CompilationUnitTree unit, SourcePositions positions) {
        this.unit = unit;
        this.positions = positions;
    }

    public static void main(String[] args) throws IOException {
        JavaCompiler compiler = ToolProvider.getSystemJavaCompiler();
        try (StandardJavaFileManager files = compiler.getStandardFileManager(null, null, null)) {
            JavacTask task = (JavacTask) compiler.getTask(
                    null, files, null, null, null, files.getJavaFileObjects(PROGRAM));
            for (CompilationUnitTree unit : task.parse()) {
                new LanguageTest(unit, Trees.instance(task).getSourcePositions()).look();
            }
        }
        Check.end();
    }

    private void look() {
        scan(unit, null);
        Check.holds("no package line", unit.getPackage() == null);
        Check.holds("rule 11: " + classes + " classes", classes <= MAX_CLASSES);
        for (String method : calls.keySet()) {
            calledOnesAreOwn(method);
            int depth = depth(method, new HashSet<>());
            Check.holds("rules 8, 11: " + method + " goes " + depth + " deep", depth <= MAX_DEPTH);
        }
    }

    private void calledOnesAreOwn(String method) {
        for (String called : calls.get(method)) {
            Check.holds("rule 4: " + method + " calls " + called, calls.containsKey(called));
        }
    }

    /** How many calls stand open at once; far too many if a method comes to itself again. */
    private int depth(String method, Set<String> open) {
        if (!open.add(method)) {
            return MAX_DEPTH + 1;
        }
        int deepest = 0;
        for (String called : calls.getOrDefault(method, Set.of())) {
            deepest = Math.max(deepest, depth(called, open));
        }
        open.remove(method);
        return deepest + 1;
    }

    private long lineAt(long position) {
        return unit.getLineMap().getLineNumber(position);
    }

    private String place(Tree tree) {
        return " in line " + lineAt(positions.getStartPosition(unit, tree));
    }

    @Override
    public Void scan(Tree tree, Void none) {
        if (tree != null && OUTSIDE.containsKey(tree.getKind())) {
            Check.holds(OUTSIDE.get(tree.getKind()) + place(tree), false);
        }
        return super.scan(tree, none);
    }

    @Override
    public Void visitImport(ImportTree tree, Void none) {
        String imported = tree.getQualifiedIdentifier().toString();
        Check.holds("rule 4: " + imported, imported.equals("java.util.NoSuchElementException"));
        return null;
    }

    @Override
    public Void visitClass(ClassTree tree, Void none) {
        classes++;
        int fields = 0;
        for (Tree member : tree.getMembers()) {
            Check.holds("rule 5: no initialiser block" + place(member),
                    !(member instanceof BlockTree));
            if (member instanceof VariableTree field) {
                Set<Modifier> modifiers = field.getModifiers().getFlags();
                boolean ofTheClass = modifiers.contains(Modifier.STATIC);
                Check.holds("rule 5: static fields are final" + place(field),
                        !ofTheClass || modifiers.contains(Modifier.FINAL));
                fields += ofTheClass ? 0 : 1;
            }
        }
        Check.holds("rule 11: " + fields + " fields" + place(tree), fields <= MAX_FIELDS);
        Check.holds("rule 2: no class within a method" + place(tree), within == null);
        return super.visitClass(tree, none);
    }

    @Override
    public Void visitMethod(MethodTree tree, Void none) {
        String name = tree.getName().toString();
        calls.putIfAbsent(name, new TreeSet<>());
        Check.holds("rule 11: " + name + "'s parameters",
                tree.getParameters().size() <= MAX_PARAMETERS);
        long lines = lineAt(positions.getEndPosition(unit, tree))
                - lineAt(positions.getStartPosition(unit, tree)) + 1;
        Check.holds("rule 11: " + name + " has " + lines + " lines", lines <= MAX_LINES);
        within = tree;
        super.visitMethod(tree, none);
        within = null;
        return null;
    }

    @Override
    public Void visitMethodInvocation(MethodInvocationTree tree, Void none) {
        String called = tree.getMethodSelect().toString();
        if (within != null && !LIBRARY.contains(called)) {
            String name = called.substring(called.lastIndexOf('.') + 1);
            calls.get(within.getName().toString()).add(name);
        }
        return super.visitMethodInvocation(tree, none);
    }

    private boolean inConstructor() {
        return within != null && within.getName().contentEquals("<init>");
    }

    @Override
    public Void visitThrow(ThrowTree tree, Void none) {
        Check.holds("rule 6: no throw in a constructor" + place(tree), !inConstructor());
        boolean plain = tree.getExpression() instanceof NewClassTree made
                && EXCEPTIONS.contains(made.getIdentifier().toString())
                && made.getArguments().isEmpty();
        Check.holds("rule 6: " + tree + place(tree), plain);
        return null;
    }

    /** Rule 12, and one room for all calls: a call makes nothing but what it throws. */
    @Override
    public Void visitNewClass(NewClassTree tree, Void none) {
        Check.holds("rule 12: " + tree + place(tree), within == null || inConstructor());
        return super.visitNewClass(tree, none);
    }

    @Override
    public Void visitNewArray(NewArrayTree tree, Void none) {
        Check.holds("rule 12: " + tree + place(tree), within == null || inConstructor());
        return super.visitNewArray(tree, none);
    }

    @Override
    public Void visitForLoop(ForLoopTree tree, Void none) {
        Check.holds("rule 9: a for with an end" + place(tree),
                tree.getCondition() != null && !tree.getUpdate().isEmpty());
        return super.visitForLoop(tree, none);
    }
}
