import com.sun.source.tree.AssertTree;
import com.sun.source.tree.ClassTree;
import com.sun.source.tree.CompilationUnitTree;
import com.sun.source.tree.ImportTree;
import com.sun.source.tree.LambdaExpressionTree;
import com.sun.source.tree.MemberReferenceTree;
import com.sun.source.tree.MethodInvocationTree;
import com.sun.source.tree.MethodTree;
import com.sun.source.tree.SynchronizedTree;
import com.sun.source.tree.ThrowTree;
import com.sun.source.tree.Tree;
import com.sun.source.tree.TryTree;
import com.sun.source.tree.VariableTree;
import com.sun.source.util.JavacTask;
import com.sun.source.util.SourcePositions;
import com.sun.source.util.TreePathScanner;
import com.sun.source.util.Trees;
import java.io.IOException;
import java.lang.reflect.Constructor;
import java.lang.reflect.Field;
import java.lang.reflect.Method;
import java.lang.reflect.Modifier;
import java.nio.file.Path;
import java.util.ArrayList;
import java.util.HashMap;
import java.util.HashSet;
import java.util.List;
import java.util.Map;
import java.util.Set;
import java.util.TreeSet;
import javax.lang.model.element.ExecutableElement;
import javax.tools.JavaCompiler;
import javax.tools.StandardJavaFileManager;
import javax.tools.ToolProvider;

/** The face of the class, and the rules of LANGUAGE.md that can be read off its source. */
public final class LanguageTest {
    private static final String FACE = "about(int,int)int above()long apart(int,int)int asked()long below()long "
        + "clear()int copy(int,int)int count(int)int cut(int)int digest()long fails(int,int)int fault()int "
        + "get(int,int,int)int kept()int mean(int)int needs(int,int)int odds(int,int)int put(int,int,int,long)int "
        + "read()int row(int,int,int)int same(int,int)int share(int,int)int shown(int,int)int slice(int)int "
        + "statement(int,int)int sway(int,int,int,int)int type(long,int)int value(int,int)int values(int)int "
        + "worst(int,int,int,int,int)int worth(int,int,int)int";
    private static final Set<String> LIBRARY = Set.of("java.lang.Math", "java.lang.Integer", "java.lang.Long",
        "java.lang.System", "java.lang.String", "java.lang.StringBuilder", "java.lang.Object", "java.lang.Iterable",
        "java.lang.Comparable", "java.util.ArrayList", "java.util.List", "java.util.Iterator", "java.util.Arrays");
    private static final Set<String> IMPORTS = Set.of("java.util.ArrayList", "java.util.List", "java.util.Iterator",
        "java.util.Arrays");

    public static void main(String[] args) throws IOException {
        face();
        source();
        Due.done("LanguageTest");
    }

    private static void fine(String rule, boolean holds) {
        Due.due("LANGUAGE.md " + rule, holds ? 1 : 0, 1);
    }

    private static void face() {
        Class<?> c = AnswerSlices.class;
        fine("1: public and final", Modifier.isPublic(c.getModifiers()) && Modifier.isFinal(c.getModifiers()));
        Set<String> open = new TreeSet<>();
        Set<String> hidden = new HashSet<>();
        for (Method m : c.getDeclaredMethods()) {
            List<String> types = new ArrayList<>();
            for (Class<?> p : m.getParameterTypes()) types.add(p.getName());
            String told = m.getName() + "(" + String.join(",", types) + ")" + m.getReturnType().getName();
            if (Modifier.isPrivate(m.getModifiers())) {
                hidden.add(m.getName());
            } else {
                open.add(told);
                fine("1: public: " + told, Modifier.isPublic(m.getModifiers()) && !Modifier.isStatic(m.getModifiers()));
            }
        }
        fine("1: methods: " + open, String.join(" ", open).equals(FACE));
        for (String told : open) fine("1: no private " + told, !hidden.contains(told.substring(0, told.indexOf('('))));
        Constructor<?>[] made = c.getDeclaredConstructors();
        fine("1: constructor", made.length == 1 && made[0].getParameterCount() == 0
            && Modifier.isPublic(made[0].getModifiers()));
        for (Field f : c.getDeclaredFields()) {
            boolean constant = Set.of("BAD", "NONE", "FULL").contains(f.getName());
            fine("1: field " + f.getName(), Modifier.isPrivate(f.getModifiers()) != constant);
        }
        for (Class<?> inside : c.getDeclaredClasses()) {
            for (Method m : inside.getDeclaredMethods()) {
                boolean bears = FACE.startsWith(m.getName() + "(") || FACE.contains(" " + m.getName() + "(");
                fine("1: no private " + m.getName(), !Modifier.isPrivate(m.getModifiers()) || !bears);
            }
            fine("1: class " + inside.getName(), Modifier.isStatic(inside.getModifiers())
                && !Modifier.isPublic(inside.getModifiers()) && !Modifier.isProtected(inside.getModifiers()));
        }
        fine("11: classes", c.getDeclaredClasses().length <= 11);
        fine("constants", AnswerSlices.BAD == -1 && AnswerSlices.NONE == -2 && AnswerSlices.FULL == -3);
    }

    private static void source() throws IOException {
        JavaCompiler compiler = ToolProvider.getSystemJavaCompiler();
        try (StandardJavaFileManager files = compiler.getStandardFileManager(null, null, null)) {
            Path main = Path.of(System.getProperty("project", "."), "src/main/java/AnswerSlices.java");
            JavacTask task = (JavacTask) compiler.getTask(null, files, null, List.of("-proc:none"), null,
                files.getJavaFileObjects(main));
            CompilationUnitTree unit = task.parse().iterator().next();
            task.analyze();
            Rules rules = new Rules(unit, Trees.instance(task));
            rules.scan(unit, null);
            rules.depth();
        }
    }

    private static final class Rules extends TreePathScanner<Void, Void> {
        private final CompilationUnitTree unit;
        private final Trees trees;
        private final Map<String, Set<String>> calls = new HashMap<>();
        private String method = "";

        Rules(CompilationUnitTree unit, Trees trees) {
            this.unit = unit;
            this.trees = trees;
            fine("no package", unit.getPackageName() == null);
            for (ImportTree t : unit.getImports()) {
                fine("4: " + t, IMPORTS.contains(t.getQualifiedIdentifier().toString()));
            }
        }

        private boolean none(String rule) {
            fine(rule + " in " + method, false);
            return false;
        }

        @Override
        public Void visitThrow(ThrowTree t, Void v) {
            none("6: throw");
            return super.visitThrow(t, v);
        }

        @Override
        public Void visitTry(TryTree t, Void v) {
            none("6: try");
            return super.visitTry(t, v);
        }

        @Override
        public Void visitSynchronized(SynchronizedTree t, Void v) {
            none("6: synchronized");
            return super.visitSynchronized(t, v);
        }

        @Override
        public Void visitAssert(AssertTree t, Void v) {
            none("6: assert");
            return super.visitAssert(t, v);
        }

        @Override
        public Void visitLambdaExpression(LambdaExpressionTree t, Void v) {
            none("2: lambda");
            return super.visitLambdaExpression(t, v);
        }

        @Override
        public Void visitMemberReference(MemberReferenceTree t, Void v) {
            none("2: method reference");
            return super.visitMemberReference(t, v);
        }

        @Override
        public Void visitClass(ClassTree t, Void v) {
            int fields = 0;
            for (Tree member : t.getMembers()) {
                if (!(member instanceof VariableTree f)) continue;
                boolean constant = f.getModifiers().getFlags().contains(javax.lang.model.element.Modifier.STATIC);
                fields += constant ? 0 : 1;
                fine("5: static is final: " + f.getName(), !constant
                    || f.getModifiers().getFlags().contains(javax.lang.model.element.Modifier.FINAL));
            }
            fine("11: fields of " + t.getSimpleName() + ": " + fields, fields <= 20);
            return super.visitClass(t, v);
        }

        @Override
        public Void visitMethod(MethodTree t, Void v) {
            String outside = method;
            method = trees.getElement(getCurrentPath()).getEnclosingElement().getSimpleName() + "." + t.getName();
            calls.putIfAbsent(method, new TreeSet<>());
            SourcePositions at = trees.getSourcePositions();
            long lines = unit.getLineMap().getLineNumber(at.getEndPosition(unit, t))
                - unit.getLineMap().getLineNumber(at.getStartPosition(unit, t)) + 1;
            fine("11: lines of " + method + ": " + lines, lines <= 60);
            fine("11: parameters of " + method, t.getParameters().size() <= 7);
            super.visitMethod(t, v);
            method = outside;
            return null;
        }

        @Override
        public Void visitMethodInvocation(MethodInvocationTree t, Void v) {
            ExecutableElement called = (ExecutableElement) trees.getElement(
                com.sun.source.util.TreePath.getPath(unit, t.getMethodSelect()));
            String owner = called.getEnclosingElement().toString();
            if (owner.startsWith("AnswerSlices")) {
                calls.computeIfAbsent(method, x -> new TreeSet<>())
                    .add(called.getEnclosingElement().getSimpleName() + "." + called.getSimpleName());
            } else {
                String name = called.getSimpleName().toString();
                fine("4: " + owner + "." + called + " in " + method, LIBRARY.contains(owner) && !name.endsWith("Exact")
                    && (!owner.equals("java.lang.System") || name.equals("arraycopy")));
            }
            return super.visitMethodInvocation(t, v);
        }

        /** Calls that are no recursion go at most eight deep: those that call one another count once. */
        void depth() {
            for (String m : calls.keySet()) {
                int deep = below(m, new HashMap<>());
                fine("11: calls below " + m + " go " + deep + " deep", deep <= 8);
            }
        }

        private boolean reaches(String from, String to, Set<String> seen) {
            for (String next : calls.getOrDefault(from, Set.of())) {
                if (next.equals(to) || seen.add(next) && reaches(next, to, seen)) return true;
            }
            return false;
        }

        private int below(String m, Map<String, Integer> known) {
            if (known.containsKey(m)) return known.get(m);
            Set<String> together = new HashSet<>(Set.of(m));
            for (String other : calls.keySet()) {
                if (reaches(m, other, new HashSet<>()) && reaches(other, m, new HashSet<>())) together.add(other);
            }
            int deepest = 0;
            for (String one : together) {
                for (String next : calls.getOrDefault(one, Set.of())) {
                    if (!together.contains(next)) deepest = Math.max(deepest, below(next, known));
                }
            }
            known.put(m, deepest + 1);
            return deepest + 1;
        }
    }
}
