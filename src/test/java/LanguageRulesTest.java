import com.sun.source.tree.AssertTree;
import com.sun.source.tree.BlockTree;
import com.sun.source.tree.ClassTree;
import com.sun.source.tree.CompilationUnitTree;
import com.sun.source.tree.ForLoopTree;
import com.sun.source.tree.LambdaExpressionTree;
import com.sun.source.tree.MemberReferenceTree;
import com.sun.source.tree.MethodInvocationTree;
import com.sun.source.tree.MethodTree;
import com.sun.source.tree.NewArrayTree;
import com.sun.source.tree.NewClassTree;
import com.sun.source.tree.SynchronizedTree;
import com.sun.source.tree.ThrowTree;
import com.sun.source.tree.Tree;
import com.sun.source.tree.TryTree;
import com.sun.source.tree.WhileLoopTree;
import com.sun.source.util.JavacTask;
import com.sun.source.util.TreePath;
import com.sun.source.util.TreePathScanner;
import com.sun.source.util.Trees;
import java.io.File;
import java.lang.reflect.Field;
import java.lang.reflect.Method;
import java.lang.reflect.Modifier;
import java.util.Arrays;
import java.util.List;
import java.util.Map;
import java.util.Set;
import java.util.TreeMap;
import java.util.TreeSet;
import java.util.stream.Collectors;
import javax.lang.model.element.Element;
import javax.lang.model.element.ElementKind;
import javax.tools.JavaCompiler;
import javax.tools.StandardJavaFileManager;
import javax.tools.ToolProvider;

/** Looks at the class by the rules of LANGUAGE.md that can be told from its text. */
public final class LanguageRulesTest extends TreePathScanner<Void, Void> {
    private static final Set<String> LIBRARY = Set.of("java.lang.System.arraycopy", "java.util.Arrays.fill",
            "java.lang.Math.min", "java.lang.Math.max", "java.lang.Object.<init>");
    private static final String FACE = "terms feed end tape pack unpack flaw put grow alter erase group compact fuse"
            + " recover written fetch undo value next page packing entry behind would block directory journal count status";

    private static int wrong = 0;
    private final Trees trees;
    private final CompilationUnitTree unit;
    private final Map<String, Set<String>> callsOf = new TreeMap<>();
    private final Set<String> open = new TreeSet<>();
    private int classes = 0;

    private LanguageRulesTest(Trees trees, CompilationUnitTree unit) {
        this.trees = trees;
        this.unit = unit;
    }

    private static void check(boolean right, String what) {
        if (!right) {
            wrong++;
            System.out.println("against LANGUAGE.md: " + what);
        }
    }

    private String where(Tree tree) { return "line " + line(tree); }

    private long line(Tree tree) {
        return unit.getLineMap().getLineNumber(trees.getSourcePositions().getStartPosition(unit, tree));
    }

    private long lastLine(Tree tree) {
        return unit.getLineMap().getLineNumber(trees.getSourcePositions().getEndPosition(unit, tree));
    }

    private String nameOf(Element e) { return e.getEnclosingElement() + "." + e; }

    private String enclosingMethod() {
        for (TreePath p = getCurrentPath(); p != null; p = p.getParentPath())
            if (p.getLeaf() instanceof MethodTree) return nameOf(trees.getElement(p));
        return "fields";
    }

    private boolean inLoop() {
        for (TreePath p = getCurrentPath(); p != null && !(p.getLeaf() instanceof MethodTree); p = p.getParentPath())
            if (p.getLeaf() instanceof ForLoopTree || p.getLeaf() instanceof WhileLoopTree) return true;
        return false;
    }

    @Override public Void visitThrow(ThrowTree t, Void v) { check(false, "6: throw, " + where(t)); return super.visitThrow(t, v); }
    @Override public Void visitTry(TryTree t, Void v) { check(false, "6: try, " + where(t)); return super.visitTry(t, v); }
    @Override public Void visitAssert(AssertTree t, Void v) { check(false, "6: assert, " + where(t)); return super.visitAssert(t, v); }
    @Override public Void visitSynchronized(SynchronizedTree t, Void v) { check(false, "6: synchronized, " + where(t)); return super.visitSynchronized(t, v); }
    @Override public Void visitLambdaExpression(LambdaExpressionTree t, Void v) { check(false, "2: lambda, " + where(t)); return super.visitLambdaExpression(t, v); }
    @Override public Void visitMemberReference(MemberReferenceTree t, Void v) { check(false, "2: method reference, " + where(t)); return super.visitMemberReference(t, v); }

    @Override public Void visitForLoop(ForLoopTree t, Void v) {
        check(t.getCondition() != null, "9: a loop without a bound, " + where(t));
        return super.visitForLoop(t, v);
    }

    @Override public Void visitWhileLoop(WhileLoopTree t, Void v) {
        check(t.getCondition().toString().contains("<"), "9: a loop without a counter's bound, " + where(t));
        return super.visitWhileLoop(t, v);
    }

    @Override public Void visitBlock(BlockTree t, Void v) {
        check(!t.isStatic(), "5: a static block, " + where(t));
        return super.visitBlock(t, v);
    }

    @Override public Void visitNewArray(NewArrayTree t, Void v) {
        check(enclosingMethod().equals("fields"), "rows are made in constructors alone, " + where(t));
        return super.visitNewArray(t, v);
    }

    @Override public Void visitNewClass(NewClassTree t, Void v) {
        check(t.getClassBody() == null, "2: an anonymous class, " + where(t));
        check(!inLoop(), "12: an object made in a loop, " + where(t));
        callsOf.computeIfAbsent(enclosingMethod(), k -> new TreeSet<>()).add(nameOf(trees.getElement(getCurrentPath())));
        return super.visitNewClass(t, v);
    }

    @Override public Void visitClass(ClassTree t, Void v) {
        classes++;
        List<? extends Tree> fields = t.getMembers().stream().filter(m -> m.getKind() == Tree.Kind.VARIABLE)
                .filter(m -> !((com.sun.source.tree.VariableTree) m).getModifiers().getFlags().contains(javax.lang.model.element.Modifier.STATIC)).toList();
        check(fields.size() <= 20, "11: " + fields.size() + " fields, " + where(t));
        Element e = trees.getElement(getCurrentPath());
        boolean outer = e.getEnclosingElement().getKind() == ElementKind.PACKAGE;
        Set<javax.lang.model.element.Modifier> flags = e.getModifiers();
        check(outer || flags.contains(javax.lang.model.element.Modifier.STATIC), "2: an inner class that is not static, " + where(t));
        for (Element member : e.getEnclosedElements()) {
            Set<javax.lang.model.element.Modifier> f = member.getModifiers();
            boolean isField = member.getKind() == ElementKind.FIELD;
            if (isField && f.contains(javax.lang.model.element.Modifier.STATIC))
                check(f.contains(javax.lang.model.element.Modifier.FINAL), "5: a static field that is not final: " + member);
            if (!outer && member.getKind() == ElementKind.METHOD)
                check(!List.of(FACE.split(" ")).contains(member.getSimpleName().toString()), "1: a name of the face: " + member);
        }
        return super.visitClass(t, v);
    }

    @Override public Void visitMethod(MethodTree t, Void v) {
        check(t.getParameters().size() <= 7, "11: too many parameters, " + where(t));
        check(lastLine(t) - line(t) < 60, "11: a long method, " + where(t));
        callsOf.computeIfAbsent(nameOf(trees.getElement(getCurrentPath())), k -> new TreeSet<>());
        return super.visitMethod(t, v);
    }

    @Override public Void visitMethodInvocation(MethodInvocationTree t, Void v) {
        Element called = trees.getElement(new TreePath(getCurrentPath(), t.getMethodSelect()));
        if (called == null) called = trees.getElement(getCurrentPath());
        String owner = called.getEnclosingElement().toString();
        if (!owner.startsWith("PackedPages") && called.getKind() == ElementKind.METHOD)
            check(LIBRARY.contains(owner + "." + called.getSimpleName()), "4: " + owner + "." + called + ", " + where(t));
        callsOf.computeIfAbsent(enclosingMethod(), k -> new TreeSet<>()).add(nameOf(called));
        return super.visitMethodInvocation(t, v);
    }

    /** How many calls stand open at most, this one and the library's among them. */
    private int depth(String method) {
        if (!open.add(method)) {
            check(false, "8: a recursion through " + method);
            return 0;
        }
        int deepest = 0;
        for (String called : callsOf.getOrDefault(method, Set.of())) deepest = Math.max(deepest, depth(called));
        open.remove(method);
        return 1 + deepest;
    }

    private static void checkFace() {
        Set<String> names = new TreeSet<>();
        for (Method m : PackedPages.class.getDeclaredMethods()) {
            if (m.isSynthetic()) continue;
            if (Modifier.isPublic(m.getModifiers())) {
                names.add(m.getName());
                check(m.getReturnType() == int.class && Arrays.stream(m.getParameterTypes()).allMatch(p -> p == int.class), "1: " + m);
            } else {
                check(Modifier.isPrivate(m.getModifiers()), "1: neither public nor private: " + m);
                check(!List.of(FACE.split(" ")).contains(m.getName()), "1: a private method bears a public name: " + m);
            }
        }
        check(names.equals(new TreeSet<>(List.of(FACE.split(" ")))), "1: the face is " + names);
        for (Field f : PackedPages.class.getDeclaredFields())
            check(Modifier.isPrivate(f.getModifiers()) || f.getName().equals("NONE"), "1: neither public nor private: " + f);
        check(Modifier.isFinal(PackedPages.class.getModifiers()) && Modifier.isPublic(PackedPages.class.getModifiers()), "1: public and final");
        check(PackedPages.class.getDeclaredConstructors().length == 1, "1: one constructor");
    }

    public static void main(String[] args) throws Exception {
        JavaCompiler compiler = ToolProvider.getSystemJavaCompiler();
        try (StandardJavaFileManager files = compiler.getStandardFileManager(null, null, null)) {
            JavacTask task = (JavacTask) compiler.getTask(null, files, null, List.of("-proc:none"), null,
                    files.getJavaFileObjects(new File("src/main/java/PackedPages.java")));
            CompilationUnitTree unit = task.parse().iterator().next();
            task.analyze();
            String imports = unit.getImports().stream().map(Object::toString).map(String::trim).collect(Collectors.joining());
            check(imports.equals("import java.util.Arrays;"), "4: " + imports);
            check(unit.getPackageName() == null, "no package line");
            LanguageRulesTest rules = new LanguageRulesTest(Trees.instance(task), unit);
            rules.scan(unit, null);
            check(rules.classes <= 12, "11: " + rules.classes + " classes");
            for (String method : rules.callsOf.keySet()) {
                int depth = rules.depth(method);
                check(depth <= 8, "11: calls go " + depth + " deep from " + method);
            }
        }
        checkFace();
        System.out.println(wrong == 0 ? "the text keeps to the rules" : wrong + " rules are broken");
        if (wrong != 0) System.exit(1);
    }
}
