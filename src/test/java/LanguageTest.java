import com.sun.source.tree.AssertTree;
import com.sun.source.tree.BinaryTree;
import com.sun.source.tree.ClassTree;
import com.sun.source.tree.CompilationUnitTree;
import com.sun.source.tree.LambdaExpressionTree;
import com.sun.source.tree.MemberReferenceTree;
import com.sun.source.tree.MethodInvocationTree;
import com.sun.source.tree.MethodTree;
import com.sun.source.tree.NewClassTree;
import com.sun.source.tree.SynchronizedTree;
import com.sun.source.tree.ThrowTree;
import com.sun.source.tree.Tree;
import com.sun.source.tree.TryTree;
import com.sun.source.tree.VariableTree;
import com.sun.source.util.JavacTask;
import com.sun.source.util.SourcePositions;
import com.sun.source.util.TreePath;
import com.sun.source.util.TreePathScanner;
import com.sun.source.util.Trees;
import java.io.File;
import java.util.ArrayDeque;
import java.util.Deque;
import java.util.HashSet;
import java.util.LinkedHashMap;
import java.util.List;
import java.util.Map;
import java.util.Set;
import java.util.TreeSet;
import javax.lang.model.element.Element;
import javax.lang.model.element.ElementKind;
import javax.lang.model.element.ExecutableElement;
import javax.lang.model.element.Modifier;
import javax.lang.model.element.TypeElement;
import javax.lang.model.type.TypeKind;
import javax.tools.JavaCompiler;
import javax.tools.StandardJavaFileManager;
import javax.tools.ToolProvider;

/** What of LANGUAGE.md can be read off the class as the compiler understands it. */
public final class LanguageTest {
    private static final Check CHECK = new Check("LanguageTest");
    private static final int MOST_LINES = 60, MOST_DEEP = 8, MOST_CLASSES = 12, MOST_FIELDS = 20, MOST_PARAMETERS = 7;

    /** Of rule 4's library what the class may use: texts and lists with their functions, numbers with theirs. */
    private static final Set<String> LIBRARY = Set.of(
        "java.lang.String.length", "java.lang.String.charAt", "java.lang.String.isEmpty", "java.lang.String.equals",
        "java.lang.String.indexOf", "java.lang.String.substring", "java.lang.String.toCharArray",
        "java.lang.Integer.compare", "java.lang.Integer.bitCount", "java.lang.Long.compare", "java.lang.Long.bitCount",
        "java.lang.Math.max", "java.lang.Math.min", "java.lang.Math.abs", "java.lang.Math.floorDiv",
        "java.lang.Math.floorMod", "java.lang.System.arraycopy", "java.util.Arrays.copyOf",
        "java.util.Arrays.copyOfRange", "java.util.Arrays.fill");

    private final Map<Element, Set<Element>> calls = new LinkedHashMap<>();
    private final Trees trees;
    private final SourcePositions places;
    private final CompilationUnitTree unit;
    private int classes = 0;

    private LanguageTest(Trees trees, CompilationUnitTree unit) {
        this.trees = trees;
        this.places = trees.getSourcePositions();
        this.unit = unit;
    }

    public static void main(String[] args) throws Exception {
        JavaCompiler compiler = ToolProvider.getSystemJavaCompiler();
        StandardJavaFileManager files = compiler.getStandardFileManager(null, null, null);
        JavacTask task = (JavacTask) compiler.getTask(null, files, null, List.of("-proc:none"), null,
            files.getJavaFileObjects(new File("src/main/java/RatedBySighs.java")));
        CompilationUnitTree unit = task.parse().iterator().next();
        task.analyze();
        LanguageTest test = new LanguageTest(Trees.instance(task), unit);
        CHECK.says("rule 4");
        CHECK.due("imports", unit.getImports().size(), 0);
        test.new Reader().scan(unit, null);
        CHECK.says("rule 11");
        CHECK.holds(MOST_CLASSES + " classes at most: " + test.classes, test.classes <= MOST_CLASSES);
        test.depths();
        CHECK.end();
    }

    private final class Reader extends TreePathScanner<Void, Void> {
        private final Deque<Element> within = new ArrayDeque<>();

        private void never(String rule, Tree tree) {
            CHECK.says(rule);
            CHECK.holds("none of these: " + tree, false);
        }

        @Override public Void visitThrow(ThrowTree t, Void v) { never("rule 6", t); return super.visitThrow(t, v); }
        @Override public Void visitTry(TryTree t, Void v) { never("rule 6", t); return super.visitTry(t, v); }
        @Override public Void visitAssert(AssertTree t, Void v) { never("rule 6", t); return super.visitAssert(t, v); }

        @Override public Void visitSynchronized(SynchronizedTree t, Void v) {
            never("rule 6", t);
            return super.visitSynchronized(t, v);
        }

        @Override public Void visitLambdaExpression(LambdaExpressionTree t, Void v) {
            never("rule 2", t);
            return super.visitLambdaExpression(t, v);
        }

        @Override public Void visitMemberReference(MemberReferenceTree t, Void v) {
            never("rule 2", t);
            return super.visitMemberReference(t, v);
        }

        @Override public Void visitClass(ClassTree tree, Void v) {
            classes++;
            Element it = trees.getElement(getCurrentPath());
            CHECK.says("rule 2");
            boolean isInside = getCurrentPath().getParentPath().getLeaf() instanceof ClassTree;
            CHECK.holds("static, inside the one class: " + it, !isInside || it.getModifiers().contains(Modifier.STATIC));
            CHECK.holds("no local and no anonymous class: " + it,
                isInside || getCurrentPath().getParentPath().getLeaf() instanceof CompilationUnitTree);
            CHECK.says("rule 11");
            long fields = it.getEnclosedElements().stream().filter(e -> e.getKind() == ElementKind.FIELD
                && !e.getModifiers().contains(Modifier.STATIC)).count();
            CHECK.holds(MOST_FIELDS + " fields at most: " + it, fields <= MOST_FIELDS);
            return super.visitClass(tree, v);
        }

        @Override public Void visitMethod(MethodTree tree, Void v) {
            Element it = trees.getElement(getCurrentPath());
            calls.putIfAbsent(it, new HashSet<>());
            CHECK.says("rule 11");
            CHECK.holds(MOST_PARAMETERS + " parameters at most: " + it, tree.getParameters().size() <= MOST_PARAMETERS);
            long lines = line(places.getEndPosition(unit, tree)) - line(places.getStartPosition(unit, tree)) + 1;
            CHECK.holds(MOST_LINES + " lines at most: " + it + " has " + lines, lines <= MOST_LINES);
            within.push(it);
            super.visitMethod(tree, v);
            within.pop();
            return null;
        }

        @Override public Void visitVariable(VariableTree tree, Void v) {
            Element it = trees.getElement(getCurrentPath());
            if (it.getKind() == ElementKind.FIELD && it.getModifiers().contains(Modifier.STATIC)) {
                CHECK.says("rule 5");
                CHECK.holds("final: " + it, it.getModifiers().contains(Modifier.FINAL));
            }
            return super.visitVariable(tree, v);
        }

        @Override public Void visitBinary(BinaryTree tree, Void v) {
            CHECK.says("rule 10");
            boolean isText = tree.getKind() == Tree.Kind.PLUS
                && trees.getTypeMirror(getCurrentPath()).getKind() == TypeKind.DECLARED;
            CHECK.holds("no texts joined by +: " + tree, !isText);
            return super.visitBinary(tree, v);
        }

        @Override public Void visitMethodInvocation(MethodInvocationTree tree, Void v) {
            called(trees.getElement(new TreePath(getCurrentPath(), tree.getMethodSelect())));
            return super.visitMethodInvocation(tree, v);
        }

        @Override public Void visitNewClass(NewClassTree tree, Void v) {
            called(trees.getElement(getCurrentPath()));
            return super.visitNewClass(tree, v);
        }

        /** A field's first value is made by the constructors of its class. */
        private void called(Element callee) {
            if (!isOwn(callee)) {
                CHECK.says("rule 4");
                String name = callee.getEnclosingElement() + "." + callee.getSimpleName();
                CHECK.holds("in the library that is left: " + name,
                    LIBRARY.contains(name) || name.equals("java.lang.Object.<init>"));
                return;
            }
            if (!within.isEmpty()) {
                calls.get(within.peek()).add(callee);
                return;
            }
            Element owner = trees.getElement(ownerPath());
            for (Element e : owner.getEnclosedElements()) {
                if (e.getKind() == ElementKind.CONSTRUCTOR) {
                    calls.computeIfAbsent(e, k -> new HashSet<>()).add(callee);
                }
            }
        }

        private TreePath ownerPath() {
            TreePath path = getCurrentPath();
            while (!(path.getLeaf() instanceof ClassTree)) {
                path = path.getParentPath();
            }
            return path;
        }
    }

    private long line(long place) {
        return unit.getLineMap().getLineNumber(place);
    }

    private static boolean isOwn(Element e) {
        Element owner = e;
        while (!(owner.getEnclosingElement() == null || owner.getEnclosingElement().getKind() == ElementKind.PACKAGE)) {
            owner = owner.getEnclosingElement();
        }
        return owner instanceof TypeElement && ((TypeElement) owner).getQualifiedName().contentEquals("RatedBySighs");
    }

    // ---- how deep calls go: methods that call one another count once

    private void depths() {
        Set<String> recursive = new TreeSet<>();
        for (Element e : calls.keySet()) {
            if (reached(e).contains(e)) {
                recursive.add(e.getSimpleName().toString());
            }
            int depth = depth(e);
            CHECK.holds(MOST_DEEP + " deep at most: " + e.getEnclosingElement() + "." + e + " goes " + depth,
                depth <= MOST_DEEP);
        }
        CHECK.says("rule 8");
        CHECK.holds("what reads an E calls itself, with the depth as an argument, and nothing else does: " + recursive,
            recursive.equals(Set.of("either", "both", "denied", "sum", "term", "single", "prefixed")));
    }

    private Set<Element> reached(Element from) {
        Set<Element> seen = new HashSet<>();
        Deque<Element> rest = new ArrayDeque<>(calls.getOrDefault(from, Set.of()));
        while (!rest.isEmpty()) {
            Element e = rest.pop();
            if (seen.add(e)) {
                rest.addAll(calls.getOrDefault(e, Set.of()));
            }
        }
        return seen;
    }

    private int depth(Element from) {
        Set<Element> group = new HashSet<>();
        for (Element e : reached(from)) {
            if (reached(e).contains(from)) {
                group.add(e);
            }
        }
        group.add(from);
        int deepest = 0;
        for (Element member : group) {
            for (Element e : calls.getOrDefault(member, Set.of())) {
                if (!group.contains(e)) {
                    deepest = Math.max(deepest, depth(e));
                }
            }
        }
        return deepest + 1;
    }
}
