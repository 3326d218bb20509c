import com.sun.source.tree.AssertTree;
import com.sun.source.tree.BinaryTree;
import com.sun.source.tree.ClassTree;
import com.sun.source.tree.CompilationUnitTree;
import com.sun.source.tree.CompoundAssignmentTree;
import com.sun.source.tree.DoWhileLoopTree;
import com.sun.source.tree.InstanceOfTree;
import com.sun.source.tree.LambdaExpressionTree;
import com.sun.source.tree.LiteralTree;
import com.sun.source.tree.MemberReferenceTree;
import com.sun.source.tree.MethodInvocationTree;
import com.sun.source.tree.MethodTree;
import com.sun.source.tree.NewClassTree;
import com.sun.source.tree.SynchronizedTree;
import com.sun.source.tree.ThrowTree;
import com.sun.source.tree.Tree;
import com.sun.source.tree.TryTree;
import com.sun.source.tree.VariableTree;
import com.sun.source.tree.WhileLoopTree;
import com.sun.source.util.JavacTask;
import com.sun.source.util.TreePath;
import com.sun.source.util.TreePathScanner;
import com.sun.source.util.Trees;
import java.io.File;
import java.io.IOException;
import java.nio.charset.StandardCharsets;
import java.nio.file.Files;
import java.util.ArrayList;
import java.util.HashMap;
import java.util.List;
import java.util.Map;
import java.util.Set;
import java.util.TreeMap;
import java.util.TreeSet;
import javax.lang.model.element.Element;
import javax.lang.model.element.ElementKind;
import javax.lang.model.element.Modifier;
import javax.tools.JavaCompiler;
import javax.tools.StandardJavaFileManager;
import javax.tools.ToolProvider;

/** The rules of LANGUAGE.md that can be seen in the source, as the compiler reads it. */
public final class RulesTest extends TreePathScanner<Void, Void> {
    private static final File SOURCE = new File("src/main/java/DunesWalked.java");
    private static final int LONGEST = 60, DEEPEST = 8, MOST_TOLD = 7, MOST_CLASSES = 12, MOST_FIELDS = 20;
    /** What rule 4 lists and the class might call; more of the list may be put here when it is called. */
    private static final Set<String> LISTED = Set.of("java.lang.String.length", "java.lang.String.charAt",
        "java.lang.Integer.bitCount", "java.lang.Long.bitCount", "java.lang.Math.min", "java.lang.Math.max",
        "java.lang.Math.abs", "java.lang.System.arraycopy", "java.util.Arrays.fill", "java.util.Arrays.copyOf",
        "java.util.Arrays.copyOfRange", "java.lang.Object.<init>");

    private final Map<String, Set<String>> calls = new TreeMap<>();
    private final Map<String, Integer> known = new HashMap<>();
    private Trees trees;
    private CompilationUnitTree unit;
    private String method = "";
    private int classes;

    public static void main(String[] args) throws IOException {
        RulesTest test = new RulesTest();
        test.read();
        test.depth();
        signs();
        Due.end();
    }

    private void read() throws IOException {
        JavaCompiler compiler = ToolProvider.getSystemJavaCompiler();
        try (StandardJavaFileManager files = compiler.getStandardFileManager(null, null, StandardCharsets.UTF_8)) {
            JavacTask task = (JavacTask) compiler.getTask(null, files, null, List.of("-proc:none"), null,
                files.getJavaFileObjects(SOURCE));
            trees = Trees.instance(task);
            List<CompilationUnitTree> units = new ArrayList<>();
            task.parse().forEach(units::add);
            task.analyze();
            Due.is("files of the class", units.size(), 1);
            unit = units.get(0);
            Due.is("rule 1: a package line", unit.getPackageName() == null ? 0 : 1, 0);
            scan(unit, null);
            Due.is("rule 11: classes at most twelve", classes <= MOST_CLASSES ? 1 : 0, 1);
        }
    }

    private long line(Tree tree) {
        return unit.getLineMap().getLineNumber(trees.getSourcePositions().getStartPosition(unit, tree));
    }

    private long lastLine(Tree tree) {
        return unit.getLineMap().getLineNumber(trees.getSourcePositions().getEndPosition(unit, tree));
    }

    private Void against(String rule, Tree tree) {
        Due.is(rule + ", line " + line(tree), 1, 0);
        return null;
    }

    private static String name(Element e) {
        return e.getEnclosingElement() + "." + e.getSimpleName();
    }

    private boolean isText(Tree tree) {
        return "java.lang.String".equals(String.valueOf(trees.getTypeMirror(TreePath.getPath(unit, tree))));
    }

    @Override
    public Void visitClass(ClassTree tree, Void none) {
        classes++;
        Due.is("rule 2: a class, line " + line(tree), tree.getKind() == Tree.Kind.CLASS ? 1 : 0, 1);
        long fields = tree.getMembers().stream().filter(m -> m.getKind() == Tree.Kind.VARIABLE)
            .filter(m -> !((VariableTree) m).getModifiers().getFlags().contains(Modifier.STATIC)).count();
        Due.is("rule 11: fields of " + tree.getSimpleName(), fields <= MOST_FIELDS ? 1 : 0, 1);
        return super.visitClass(tree, none);
    }

    @Override
    public Void visitMethod(MethodTree tree, Void none) {
        String outside = method;
        method = name(trees.getElement(getCurrentPath()));
        Due.is("rule 1, 8: " + method + " is one of its name", calls.put(method, new TreeSet<>()) == null ? 1 : 0, 1);
        long lines = lastLine(tree) - line(tree) + 1;
        boolean written = line(tree) > 0 && trees.getSourcePositions().getEndPosition(unit, tree) > 0;
        Due.is("rule 11: lines of " + method, !written || lines <= LONGEST ? 1 : 0, 1);
        Due.is("rule 6: throws of " + method, tree.getThrows().size(), 0);
        Due.is("rule 11: parameters of " + method, tree.getParameters().size() <= MOST_TOLD ? 1 : 0, 1);
        super.visitMethod(tree, none);
        method = outside;
        return null;
    }

    @Override
    public Void visitVariable(VariableTree tree, Void none) {
        Element e = trees.getElement(getCurrentPath());
        if (e.getKind() == ElementKind.FIELD && e.getModifiers().contains(Modifier.STATIC)) {
            String type = e.asType().toString();
            Due.is("rule 5: a static field, line " + line(tree), e.getModifiers().contains(Modifier.FINAL)
                && Set.of("int", "long", "boolean", "char", "java.lang.String").contains(type) ? 1 : 0, 1);
        }
        return super.visitVariable(tree, none);
    }

    @Override
    public Void visitMethodInvocation(MethodInvocationTree tree, Void none) {
        called(trees.getElement(getCurrentPath()), tree);
        return super.visitMethodInvocation(tree, none);
    }

    @Override
    public Void visitNewClass(NewClassTree tree, Void none) {
        if (tree.getClassBody() != null) {
            against("rule 2: a class without a name", tree);
        }
        called(trees.getElement(getCurrentPath()), tree);
        return super.visitNewClass(tree, none);
    }

    private void called(Element called, Tree tree) {
        String name = name(called);
        if (name.startsWith("DunesWalked")) {
            if (calls.containsKey(method)) {
                calls.get(method).add(name);
            }
        } else if (!LISTED.contains(name)) {
            against("rule 4: " + name, tree);
        }
    }

    @Override
    public Void visitBinary(BinaryTree tree, Void none) {
        if (tree.getKind() == Tree.Kind.PLUS && (isText(tree.getLeftOperand()) || isText(tree.getRightOperand()))) {
            against("rule 10: texts joined by +", tree);
        }
        boolean divides = tree.getKind() == Tree.Kind.DIVIDE || tree.getKind() == Tree.Kind.REMAINDER;
        if (divides && !method.endsWith(".inLowestTerms")) {
            Element by = trees.getElement(TreePath.getPath(unit, tree.getRightOperand()));
            boolean told = tree.getRightOperand() instanceof LiteralTree
                || by != null && by.getModifiers().contains(Modifier.STATIC);
            Due.is("rule 7: a divisor that is no constant, line " + line(tree), told ? 1 : 0, 1);
        }
        return super.visitBinary(tree, none);
    }

    @Override
    public Void visitCompoundAssignment(CompoundAssignmentTree tree, Void none) {
        if (isText(tree.getVariable())) {
            against("rule 10: texts joined by +=", tree);
        }
        if (tree.getKind() == Tree.Kind.DIVIDE_ASSIGNMENT || tree.getKind() == Tree.Kind.REMAINDER_ASSIGNMENT) {
            against("rule 7: /= or %=", tree);
        }
        return super.visitCompoundAssignment(tree, none);
    }

    /** A loop ends by a counter against a bound, that is told in its own line. */
    @Override
    public Void visitWhileLoop(WhileLoopTree tree, Void none) {
        boolean bounded = tree.getCondition().toString().contains(" < ");
        Due.is("rule 9: the end of a loop, line " + line(tree), bounded ? 1 : 0, 1);
        return super.visitWhileLoop(tree, none);
    }

    @Override
    public Void visitDoWhileLoop(DoWhileLoopTree tree, Void none) {
        return against("rule 9: a loop whose end isn't looked at here", tree);
    }

    @Override
    public Void visitThrow(ThrowTree tree, Void none) {
        return against("rule 6: throw", tree);
    }

    @Override
    public Void visitTry(TryTree tree, Void none) {
        return against("rule 6: try", tree);
    }

    @Override
    public Void visitSynchronized(SynchronizedTree tree, Void none) {
        return against("rule 6: synchronized", tree);
    }

    @Override
    public Void visitAssert(AssertTree tree, Void none) {
        return against("rule 6: assert", tree);
    }

    @Override
    public Void visitInstanceOf(InstanceOfTree tree, Void none) {
        return against("rule 6: a cast or a look at a class isn't looked at here", tree);
    }

    @Override
    public Void visitLambdaExpression(LambdaExpressionTree tree, Void none) {
        return against("rule 2: a lambda", tree);
    }

    @Override
    public Void visitMemberReference(MemberReferenceTree tree, Void none) {
        return against("rule 2: a reference to a method", tree);
    }

    /** Methods that call one another in a ring, as the tape's do, are recursion: they count as one call. */
    private void depth() {
        Set<String> rings = new TreeSet<>();
        for (String name : calls.keySet()) {
            if (reached(name).contains(name)) {
                rings.add(name);
            }
        }
        Set<String> due = new TreeSet<>();
        for (String rule : List.of("either", "both", "denial", "sum", "term", "one")) {
            due.add("DunesWalked.Tape." + rule);
        }
        Due.is("rule 8: methods that recur", rings.toString(), due.toString());
        for (String name : calls.keySet()) {
            Due.is("rule 11: how deep calls go from " + name, deep(name, rings) <= DEEPEST ? 1 : 0, 1);
        }
    }

    private Set<String> reached(String from) {
        Set<String> all = new TreeSet<>();
        List<String> next = new ArrayList<>(calls.get(from));
        for (int i = 0; i < next.size(); i++) {
            if (all.add(next.get(i)) && calls.containsKey(next.get(i))) {
                next.addAll(calls.get(next.get(i)));
            }
        }
        return all;
    }

    private int deep(String name, Set<String> rings) {
        if (known.containsKey(name)) {
            return known.get(name);
        }
        Set<String> further = new TreeSet<>(calls.getOrDefault(name, Set.of()));
        if (rings.contains(name)) {
            rings.forEach(r -> further.addAll(calls.get(r)));
            further.removeAll(rings);
        }
        int deepest = 0;
        for (String called : further) {
            deepest = Math.max(deepest, deep(called, rings));
        }
        known.put(name, deepest + 1);
        return deepest + 1;
    }

    private static void signs() throws IOException {
        long others = Files.readString(SOURCE.toPath(), StandardCharsets.UTF_8).chars().filter(c -> c > 126).count();
        Due.is("rule 4: signs of the source above 126", others, 0);
    }
}
