import com.sun.source.tree.AssertTree;
import com.sun.source.tree.BinaryTree;
import com.sun.source.tree.BlockTree;
import com.sun.source.tree.ClassTree;
import com.sun.source.tree.CompilationUnitTree;
import com.sun.source.tree.ImportTree;
import com.sun.source.tree.LambdaExpressionTree;
import com.sun.source.tree.LineMap;
import com.sun.source.tree.MemberReferenceTree;
import com.sun.source.tree.MethodInvocationTree;
import com.sun.source.tree.MethodTree;
import com.sun.source.tree.NewArrayTree;
import com.sun.source.tree.NewClassTree;
import com.sun.source.tree.SynchronizedTree;
import com.sun.source.tree.ThrowTree;
import com.sun.source.tree.Tree;
import com.sun.source.tree.TryTree;
import com.sun.source.tree.VariableTree;
import com.sun.source.util.JavacTask;
import com.sun.source.util.TreePathScanner;
import com.sun.source.util.Trees;
import java.util.Map;
import java.util.Set;
import java.util.TreeMap;
import java.util.TreeSet;
import javax.lang.model.element.Element;
import javax.lang.model.element.Modifier;
import javax.tools.JavaCompiler;
import javax.tools.StandardJavaFileManager;
import javax.tools.ToolProvider;

/** The form of the code: the rules of LANGUAGE.md that javac can see in the source. */
public final class LanguageTest extends TreePathScanner<Void, Void> {
    private static final String SOURCE = "src/main/java/PointReports.java";
    private static final Set<String> LIBRARY = Set.of("java.lang.Object.<init>", "java.lang.Math.min", "java.lang.Math.max");
    private static final int MOST_CLASSES = 12;
    private static final int MOST_FIELDS = 20;
    private static final int MOST_PARAMETERS = 7;
    private static final int MOST_LINES = 60;
    private static final int MOST_DEPTH = 8;
    private static final int FACE = 17;

    private final Due due = new Due("LanguageTest");
    private final CompilationUnitTree unit;
    private final Trees trees;
    /** Each method, by its class and name, with those that it calls. */
    private final Map<String, Set<String>> calls = new TreeMap<>();
    private final Set<String> face = new TreeSet<>();
    private final Set<String> hidden = new TreeSet<>();
    private int classes;
    /** The method that is read; outside of methods empty. */
    private String method = "";

    private LanguageTest(CompilationUnitTree unit, Trees trees) {
        this.unit = unit;
        this.trees = trees;
    }

    public static void main(String[] args) throws Exception {
        JavaCompiler javac = ToolProvider.getSystemJavaCompiler();
        try (StandardJavaFileManager files = javac.getStandardFileManager(null, null, null)) {
            JavacTask task = (JavacTask) javac.getTask(null, files, null, null, null, files.getJavaFileObjects(SOURCE));
            CompilationUnitTree unit = task.parse().iterator().next();
            task.analyze();
            LanguageTest test = new LanguageTest(unit, Trees.instance(task));
            test.scan(unit, null);
            test.whole();
            test.due.end();
        }
    }

    private void whole() {
        due.says("the file has at most some twelve classes");
        due.yes(classes + " classes", classes > 0 && classes <= MOST_CLASSES);
        due.says("No private method bears the name of a public one");
        due.is("methods of the face", face.size(), FACE);
        for (String name : hidden) {
            due.no(name, face.contains(name));
        }
        due.says("calls that are no recursion go at most eight deep");
        for (String name : calls.keySet()) {
            int deep = depth(name, 0);
            due.yes(name + " goes " + deep + " deep", deep <= MOST_DEPTH);
        }
    }

    /** Far above eight for a method that calls itself, by whatever way. */
    private int depth(String name, int above) {
        int deepest = 0;
        if (above < 2 * MOST_DEPTH) {
            for (String called : calls.getOrDefault(name, Set.of())) {
                deepest = Math.max(deepest, depth(called, above + 1));
            }
        }
        return 1 + deepest;
    }

    private String here(Tree tree) {
        LineMap lines = unit.getLineMap();
        return "line " + lines.getLineNumber(trees.getSourcePositions().getStartPosition(unit, tree));
    }

    private void ruledOut(String rule, Tree tree) {
        due.says(rule);
        due.no(here(tree), true);
    }

    @Override
    public Void visitImport(ImportTree tree, Void none) {
        ruledOut("The library: only what stands here", tree);
        return super.visitImport(tree, none);
    }

    @Override
    public Void visitClass(ClassTree tree, Void none) {
        classes++;
        int fields = 0;
        for (Tree member : tree.getMembers()) {
            if (member instanceof VariableTree field) {
                Set<Modifier> modifiers = field.getModifiers().getFlags();
                due.says("Static fields are final");
                due.no(here(field), modifiers.contains(Modifier.STATIC) && !modifiers.contains(Modifier.FINAL));
                fields += modifiers.contains(Modifier.STATIC) ? 0 : 1;
            }
            due.says("no static initialiser block");
            due.no(here(member), member instanceof BlockTree block && block.isStatic());
        }
        due.says("a class some twenty fields beside its constants");
        due.yes(tree.getSimpleName() + " has " + fields, fields <= MOST_FIELDS);
        return super.visitClass(tree, none);
    }

    @Override
    public Void visitMethod(MethodTree tree, Void none) {
        method = name(trees.getElement(getCurrentPath()));
        calls.putIfAbsent(method, new TreeSet<>());
        if (!method.endsWith("<init>")) {
            boolean isPublic = tree.getModifiers().getFlags().contains(Modifier.PUBLIC);
            (isPublic ? face : hidden).add(tree.getName().toString());
        }
        due.says("A method takes at most seven parameters");
        due.yes(method, tree.getParameters().size() <= MOST_PARAMETERS);
        due.says("Methods stay short (some sixty lines)");
        due.yes(method, lines(tree) <= MOST_LINES);
        super.visitMethod(tree, none);
        method = "";
        return null;
    }

    private long lines(Tree tree) {
        LineMap lines = unit.getLineMap();
        long first = lines.getLineNumber(trees.getSourcePositions().getStartPosition(unit, tree));
        return lines.getLineNumber(trees.getSourcePositions().getEndPosition(unit, tree)) - first + 1;
    }

    private static String name(Element called) {
        return called.getEnclosingElement() + "." + called.getSimpleName();
    }

    @Override
    public Void visitMethodInvocation(MethodInvocationTree tree, Void none) {
        call(tree);
        return super.visitMethodInvocation(tree, none);
    }

    /** Stricter than the rule: all that is ever made is made with the object. */
    @Override
    public Void visitNewClass(NewClassTree tree, Void none) {
        due.says("What a run makes is counted");
        due.yes(here(tree), makes());
        call(tree);
        return super.visitNewClass(tree, none);
    }

    @Override
    public Void visitNewArray(NewArrayTree tree, Void none) {
        due.says("What a run makes is counted");
        due.yes(here(tree), makes());
        return super.visitNewArray(tree, none);
    }

    private boolean makes() {
        return method.isEmpty() || method.endsWith("<init>");
    }

    private void call(Tree tree) {
        String called = name(trees.getElement(getCurrentPath()));
        if (called.startsWith("PointReports")) {
            calls.computeIfAbsent(method, caller -> new TreeSet<>()).add(called);
            return;
        }
        due.says("The library: only what stands here");
        due.yes(here(tree) + " calls " + called, LIBRARY.contains(called));
    }

    @Override
    public Void visitBinary(BinaryTree tree, Void none) {
        due.says("joining texts by StringBuilder (not by +)");
        due.no(here(tree), "java.lang.String".equals(String.valueOf(trees.getTypeMirror(getCurrentPath()))));
        return super.visitBinary(tree, none);
    }

    @Override
    public Void visitLambdaExpression(LambdaExpressionTree tree, Void none) {
        ruledOut("no lambda, no method reference", tree);
        return super.visitLambdaExpression(tree, none);
    }

    @Override
    public Void visitMemberReference(MemberReferenceTree tree, Void none) {
        ruledOut("no lambda, no method reference", tree);
        return super.visitMemberReference(tree, none);
    }

    @Override
    public Void visitThrow(ThrowTree tree, Void none) {
        ruledOut("A call of the face throws exactly what and where the document says", tree);
        return super.visitThrow(tree, none);
    }

    @Override
    public Void visitTry(TryTree tree, Void none) {
        ruledOut("try with one or more catches of these classes round calls of methods that throw", tree);
        return super.visitTry(tree, none);
    }

    @Override
    public Void visitSynchronized(SynchronizedTree tree, Void none) {
        ruledOut("No synchronized, assert", tree);
        return super.visitSynchronized(tree, none);
    }

    @Override
    public Void visitAssert(AssertTree tree, Void none) {
        ruledOut("No synchronized, assert", tree);
        return super.visitAssert(tree, none);
    }
}
