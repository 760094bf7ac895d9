import com.sun.source.tree.*;
import com.sun.source.util.JavacTask;
import com.sun.source.util.SourcePositions;
import com.sun.source.util.TreePathScanner;
import com.sun.source.util.Trees;
import java.io.File;
import java.lang.reflect.Modifier;
import java.util.*;
import javax.lang.model.element.Element;
import javax.lang.model.element.ElementKind;
import javax.lang.model.element.ExecutableElement;
import javax.lang.model.element.TypeElement;
import javax.lang.model.element.VariableElement;
import javax.tools.JavaCompiler;
import javax.tools.StandardJavaFileManager;
import javax.tools.ToolProvider;

/** The face of the document, and those rules of LANGUAGE.md that can be seen in the file itself. */
public final class LanguageTest {

    private static final String FILE = "src/main/java/CodePress.java";
    private static final Set<String> FACE = Set.of(
        "public int feed(int,int,int,int,int)", "public int load(int)", "public int ask(int,int,boolean)",
        "public int fault(int)", "public int told(int)", "public int type(int,int)", "public int value()",
        "public int out(int)", "public int count(int)");
    // what the file uses of what rule 4 lists; a call beyond these is looked up there first
    private static final Set<String> LIBRARY = Set.of(
        "java.lang.String.length", "java.lang.String.charAt", "java.lang.String.indexOf", "java.lang.Math.max",
        "java.lang.Math.min", "java.lang.System.arraycopy", "java.util.Arrays.copyOf");
    // rules 2 and 6, and joining by += of texts aside, what has no place in the file at all
    private static final Set<Tree.Kind> RULED_OUT = EnumSet.of(
        Tree.Kind.LAMBDA_EXPRESSION, Tree.Kind.MEMBER_REFERENCE, Tree.Kind.THROW, Tree.Kind.TRY, Tree.Kind.CATCH,
        Tree.Kind.SYNCHRONIZED, Tree.Kind.ASSERT, Tree.Kind.ANNOTATION, Tree.Kind.YIELD,
        Tree.Kind.FLOAT_LITERAL, Tree.Kind.DOUBLE_LITERAL);

    public static void main(String[] args) throws Exception {
        face();
        nestedClasses();
        file();
        Press.finish("LanguageTest");
    }

    // ---- rule 1: the compiled class

    private static void face() throws Exception {
        Class<?> c = CodePress.class;
        Press.due("class", Modifier.toString(c.getModifiers()), "public final");
        Press.due("package", c.getPackageName(), "");
        Press.due("above", c.getSuperclass() + " " + c.getInterfaces().length, Object.class + " 0");
        Set<String> seen = new TreeSet<>();
        for (var m : c.getDeclaredMethods()) {
            if (!Modifier.isPrivate(m.getModifiers())) {
                seen.add(Modifier.toString(m.getModifiers()) + " " + m.getReturnType() + " " + m.getName() + list(m.getParameterTypes()));
            } else {
                Press.due("a private method with a public one's name: " + m.getName(), publicNames().contains(m.getName()), false);
            }
        }
        Press.due("methods", seen, new TreeSet<>(FACE));
        Press.due("constructors", c.getDeclaredConstructors().length, 1);
        Press.due("constructor", Modifier.toString(c.getDeclaredConstructor().getModifiers()), "public");
        for (var f : c.getDeclaredFields()) {
            boolean none = f.getName().equals("NONE");
            Press.due("field " + f.getName(), Modifier.isPrivate(f.getModifiers()), !none);
        }
        var none = c.getDeclaredField("NONE");
        Press.due("NONE", Modifier.toString(none.getModifiers()) + " " + none.getType() + " " + CodePress.NONE, "public static final int -1");
    }

    private static Set<String> publicNames() {
        Set<String> names = new HashSet<>();
        for (String f : FACE) {
            names.add(f.substring("public int ".length(), f.indexOf('(')));
        }
        return names;
    }

    private static String list(Class<?>[] types) {
        StringJoiner j = new StringJoiner(",", "(", ")");
        for (Class<?> t : types) {
            j.add(t.getName());
        }
        return j.toString();
    }

    /** Rules 1, 2, 5 and 11, of the classes inside too. */
    private static void nestedClasses() {
        List<Class<?>> all = new ArrayList<>(List.of(CodePress.class));
        all.addAll(List.of(CodePress.class.getDeclaredClasses()));
        Press.due("at most some twelve classes, there are " + all.size(), all.size() <= 12, true);
        for (Class<?> c : all) {
            if (c != CodePress.class) {
                int m = c.getModifiers();
                Press.due(c + " is static", Modifier.isStatic(m), true);
                Press.due(c + " is not public", Modifier.isPublic(m) || Modifier.isProtected(m), false);
                Press.due(c + " has no classes inside", c.getDeclaredClasses().length, 0);
            }
            int own = 0;
            for (var f : c.getDeclaredFields()) {
                if (!Modifier.isStatic(f.getModifiers())) {
                    own++;
                    continue;
                }
                Press.due("static " + f + " is final", Modifier.isFinal(f.getModifiers()), true);
                Press.due("static " + f, Set.of("int", "long", "java.lang.String").contains(f.getType().getName()), true);
            }
            Press.due(c + " has some twenty fields at most, there are " + own, own <= 20, true);
            for (var m : c.getDeclaredMethods()) {
                boolean bears = c != CodePress.class && publicNames().contains(m.getName());
                Press.due(m + " bears a public one's name", bears, false);
            }
        }
    }

    // ---- the file itself

    private static void file() throws Exception {
        JavaCompiler compiler = ToolProvider.getSystemJavaCompiler();
        try (StandardJavaFileManager files = compiler.getStandardFileManager(null, null, null)) {
            JavacTask task = (JavacTask) compiler.getTask(null, files, null, List.of("-proc:none"), null,
                files.getJavaFileObjects(new File(FILE)));
            CompilationUnitTree unit = task.parse().iterator().next();
            task.analyze();
            Press.due("package line", unit.getPackageName(), null);
            Press.due("classes in the file", unit.getTypeDecls().size(), 1);
            for (ImportTree i : unit.getImports()) {
                Press.due("import", i.toString().trim(), "import java.util.Arrays;");
            }
            Rules rules = new Rules(unit, Trees.instance(task));
            rules.scan(unit, null);
            rules.depths();
        }
    }

    private static final class Rules extends TreePathScanner<Void, Void> {
        final CompilationUnitTree unit;
        final Trees trees;
        final SourcePositions places;
        final Map<String, Set<String>> calls = new TreeMap<>();
        String method = "";

        Rules(CompilationUnitTree unit, Trees trees) {
            this.unit = unit;
            this.trees = trees;
            this.places = trees.getSourcePositions();
        }

        long line(Tree t, boolean end) {
            long at = end ? places.getEndPosition(unit, t) : places.getStartPosition(unit, t);
            return unit.getLineMap().getLineNumber(at);
        }

        @Override
        public Void scan(Tree t, Void v) {
            if (t != null && RULED_OUT.contains(t.getKind())) {
                Press.due("line " + line(t, false) + ": " + t.getKind(), "stands there", "is ruled out");
            }
            return super.scan(t, v);
        }

        @Override
        public Void visitMethod(MethodTree m, Void v) {
            Element e = trees.getElement(getCurrentPath());
            String outer = method;
            method = name(e);
            calls.computeIfAbsent(method, k -> new TreeSet<>());
            Press.due(method + " has seven parameters at most", m.getParameters().size() <= 7, true);
            // a constructor that is not written has no lines
            long lines = places.getEndPosition(unit, m) < 0 ? 0 : line(m, true) - line(m, false) + 1;
            Press.due(method + " has some sixty lines at most, there are " + lines, lines <= 60, true);
            super.visitMethod(m, v);
            method = outer;
            return null;
        }

        @Override
        public Void visitMethodInvocation(MethodInvocationTree call, Void v) {
            Element e = trees.getElement(getCurrentPath());
            String called = name(e);
            boolean own = called.startsWith("CodePress");
            boolean above = e.getKind() == ElementKind.CONSTRUCTOR;
            if (own) {
                calls.computeIfAbsent(method, k -> new TreeSet<>()).add(called);
            } else {
                Press.due("line " + line(call, false) + ": " + called, above || LIBRARY.contains(called), true);
            }
            return super.visitMethodInvocation(call, v);
        }

        @Override
        public Void visitNewClass(NewClassTree made, Void v) {
            Press.due("an own class is made at line " + line(made, false),
                made.getClassBody() == null && name(trees.getElement(getCurrentPath())).startsWith("CodePress"), true);
            return super.visitNewClass(made, v);
        }

        /** Rule 3: of a field, a parameter, a variable. */
        @Override
        public Void visitVariable(VariableTree x, Void v) {
            VariableElement e = (VariableElement) trees.getElement(getCurrentPath());
            String type = e.asType().toString();
            boolean known = type.startsWith("CodePress.") && !type.contains("[")
                || Set.of("int", "long", "byte", "char", "boolean", "java.lang.String").contains(type)
                || Set.of("int[]", "long[]", "byte[]", "boolean[]").contains(type);
            Press.due("the type of " + x.getName() + " at line " + line(x, false) + ": " + type, known, true);
            return super.visitVariable(x, v);
        }

        /** Rule 10: texts are not joined by +; rule 6: no == between two Strings. */
        @Override
        public Void visitBinary(BinaryTree b, Void v) {
            String type = String.valueOf(trees.getTypeMirror(new com.sun.source.util.TreePath(getCurrentPath(), b.getLeftOperand())));
            Press.due("a text at " + b.getKind() + " in line " + line(b, false), type.equals("java.lang.String"), false);
            return super.visitBinary(b, v);
        }

        /** Rule 9: a loop without a condition has no end that can be seen. */
        @Override
        public Void visitForLoop(ForLoopTree loop, Void v) {
            boolean bounded = loop.getCondition() != null && loop.getCondition().toString().matches(".*[<>].*");
            Press.due("a bound of the loop in line " + line(loop, false), bounded, true);
            return super.visitForLoop(loop, v);
        }

        @Override
        public Void visitWhileLoop(WhileLoopTree loop, Void v) {
            Press.due("a bound of the loop in line " + line(loop, false), loop.getCondition().toString().matches(".*pos < size.*"), true);
            return super.visitWhileLoop(loop, v);
        }

        @Override
        public Void visitDoWhileLoop(DoWhileLoopTree loop, Void v) {
            Press.due("a loop in line " + line(loop, false), "do", "for");
            return super.visitDoWhileLoop(loop, v);
        }

        static String name(Element e) {
            TypeElement c = (TypeElement) e.getEnclosingElement();
            String args = c.getQualifiedName().toString().startsWith("CodePress") && e instanceof ExecutableElement x
                ? "/" + x.getParameters() + x.asType() : "";
            return c.getQualifiedName() + "." + e.getSimpleName() + args;
        }

        /** Rule 11: chains of calls, those that call one another taken as one. */
        void depths() {
            Map<String, Integer> deep = new HashMap<>();
            for (String m : calls.keySet()) {
                int d = deepest(m, deep);
                Press.due(m + " has calls at most eight deep, there are " + d, d <= 8, true);
            }
        }

        private int deepest(String m, Map<String, Integer> deep) {
            Integer known = deep.get(m);
            if (known != null) {
                return known;
            }
            Set<String> ring = new TreeSet<>(List.of(m));
            for (String other : reach(m)) {
                if (reach(other).contains(m)) {
                    ring.add(other);
                }
            }
            int below = 0;
            for (String r : ring) {
                for (String next : calls.getOrDefault(r, Set.of())) {
                    if (!ring.contains(next)) {
                        below = Math.max(below, deepest(next, deep));
                    }
                }
            }
            deep.put(m, below + 1);
            return below + 1;
        }

        private Set<String> reach(String m) {
            Set<String> seen = new TreeSet<>();
            Deque<String> todo = new ArrayDeque<>(List.of(m));
            while (!todo.isEmpty()) {
                for (String next : calls.getOrDefault(todo.pop(), Set.of())) {
                    if (seen.add(next)) {
                        todo.push(next);
                    }
                }
            }
            return seen;
        }
    }
}
