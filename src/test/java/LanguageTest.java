import com.sun.source.tree.*;
import com.sun.source.util.JavacTask;
import com.sun.source.util.TreePath;
import com.sun.source.util.TreePathScanner;
import com.sun.source.util.Trees;
import java.io.File;
import java.lang.reflect.Constructor;
import java.lang.reflect.Method;
import java.lang.reflect.Modifier;
import java.util.*;
import javax.lang.model.element.Element;
import javax.lang.model.element.ExecutableElement;
import javax.lang.model.element.TypeElement;
import javax.tools.JavaCompiler;
import javax.tools.StandardJavaFileManager;
import javax.tools.ToolProvider;

/** The face of the class, and the rules of LANGUAGE.md that can be read off its source. */
public final class LanguageTest {
    private static final String SOURCE = "src/main/java/TwiceOnce.java";
    private static final int MOST_LINES = 60, MOST_PARAMETERS = 7, MOST_DEEP = 8;
    private static final int MOST_CLASSES = 12, MOST_FIELDS = 20;
    private static final Set<Tree.Kind> FORBIDDEN = EnumSet.of(Tree.Kind.THROW, Tree.Kind.TRY,
            Tree.Kind.CATCH, Tree.Kind.SYNCHRONIZED, Tree.Kind.ASSERT, Tree.Kind.LAMBDA_EXPRESSION,
            Tree.Kind.MEMBER_REFERENCE, Tree.Kind.IMPORT, Tree.Kind.PACKAGE);
    private static final Set<String> LIBRARY = new HashSet<>(Arrays.asList(
            "java.lang.String", "java.lang.StringBuilder", "java.lang.Integer", "java.lang.Long",
            "java.lang.Math", "java.lang.System", "java.util.Arrays", "java.util.ArrayList",
            "java.util.List", "java.lang.Object"));
    private static final String[] FACE = {"feed(long,int)", "service()", "change(int)",
        "mend(int,int,int)", "hold(int,int)", "set(int,int,int)", "about(int,int)",
        "act(int,int,int)", "call(int,int,int,int)", "outside(int)", "row(int,int,int)", "clear()",
        "free(int)", "safe(int,int,int)", "worst()", "orders(int,int)", "enough()", "price(int,int)",
        "cheapest(int)", "again()", "log(int,int)", "reset()", "count(int)"};

    private static final List<String> wrong = new ArrayList<>();

    private LanguageTest() {
    }

    private static void check(boolean right, String what) {
        if (!right) {
            wrong.add(what);
        }
    }

    private static void face() {
        Class<?> c = TwiceOnce.class;
        check(Modifier.isPublic(c.getModifiers()) && Modifier.isFinal(c.getModifiers()), "class");
        check(c.getSuperclass() == Object.class && c.getInterfaces().length == 0, "what is above it");
        Constructor<?>[] made = c.getDeclaredConstructors();
        check(made.length == 1 && Modifier.isPublic(made[0].getModifiers())
                && made[0].getParameterCount() == 0, "constructor");
        Set<String> due = new TreeSet<>(Arrays.asList(FACE));
        Set<String> seen = new TreeSet<>();
        for (Method m : c.getDeclaredMethods()) {
            if (m.isSynthetic() || Modifier.isPrivate(m.getModifiers())) {
                continue;
            }
            StringJoiner types = new StringJoiner(",", m.getName() + "(", ")");
            for (Class<?> t : m.getParameterTypes()) {
                types.add(t.getName());
            }
            seen.add(types.toString());
            check(m.getModifiers() == Modifier.PUBLIC && m.getReturnType() == int.class,
                    "modifiers or type of " + m);
        }
        check(seen.equals(due), "methods are " + seen);
        Set<String> constants = new TreeSet<>();
        for (java.lang.reflect.Field f : c.getDeclaredFields()) {
            if (!f.isSynthetic() && !Modifier.isPrivate(f.getModifiers())) {
                constants.add(f.getName());
                check(f.getModifiers() == (Modifier.PUBLIC | Modifier.STATIC | Modifier.FINAL)
                        && f.getType() == int.class, "constant " + f);
            }
        }
        check(constants.equals(new TreeSet<>(Arrays.asList("NONE", "BAD", "STATE", "FULL", "BIG"))),
                "constants are " + constants);
        check(TwiceOnce.NONE == -1 && TwiceOnce.BAD == -2 && TwiceOnce.STATE == -3
                && TwiceOnce.FULL == -4 && TwiceOnce.BIG == -5, "values of constants");
    }

    /** Goes through the source once and notes who calls whom. */
    private static final class Scan extends TreePathScanner<Void, Void> {
        final Trees trees;
        final CompilationUnitTree unit;
        final Map<String, Set<String>> calls = new TreeMap<>();
        final Set<String> publicNames = new HashSet<>();
        final Map<String, String> otherNames = new TreeMap<>();
        private String method = "";
        private int classes = 0;

        Scan(Trees trees, CompilationUnitTree unit) {
            this.trees = trees;
            this.unit = unit;
        }

        private long line(Tree tree) {
            return unit.getLineMap().getLineNumber(
                    trees.getSourcePositions().getStartPosition(unit, tree));
        }

        private static String nameOf(Element e) {
            return e.getEnclosingElement().getSimpleName() + "." + e.getSimpleName();
        }

        @Override
        public Void scan(Tree tree, Void v) {
            if (tree != null) {
                check(!FORBIDDEN.contains(tree.getKind()), tree.getKind() + " in line " + line(tree));
            }
            return super.scan(tree, v);
        }

        @Override
        public Void visitClass(ClassTree tree, Void v) {
            classes++;
            check(classes <= MOST_CLASSES, "more than " + MOST_CLASSES + " classes");
            boolean inside = getCurrentPath().getParentPath().getLeaf() instanceof ClassTree;
            Set<javax.lang.model.element.Modifier> flags = tree.getModifiers().getFlags();
            check(!inside || flags.contains(javax.lang.model.element.Modifier.STATIC)
                    || tree.getKind() != Tree.Kind.CLASS, "a class inside that is not static");
            int fields = 0;
            for (Tree member : tree.getMembers()) {
                check(member.getKind() != Tree.Kind.BLOCK, "an initialiser block");
                if (member instanceof VariableTree) {
                    Set<javax.lang.model.element.Modifier> is =
                            ((VariableTree) member).getModifiers().getFlags();
                    boolean isStatic = is.contains(javax.lang.model.element.Modifier.STATIC);
                    fields += isStatic ? 0 : 1;
                    check(!isStatic || is.contains(javax.lang.model.element.Modifier.FINAL),
                            "static and not final: " + member);
                }
            }
            check(fields <= MOST_FIELDS, tree.getSimpleName() + " has " + fields + " fields");
            return super.visitClass(tree, v);
        }

        @Override
        public Void visitMethod(MethodTree tree, Void v) {
            Element e = trees.getElement(getCurrentPath());
            method = nameOf(e);
            check(calls.put(method, new TreeSet<>()) == null, "two methods are named " + method);
            boolean isPublic = e.getModifiers().contains(javax.lang.model.element.Modifier.PUBLIC);
            if (isPublic) {
                publicNames.add(e.getSimpleName().toString());
            } else if (!e.getSimpleName().contentEquals("<init>")) {
                otherNames.put(method, e.getSimpleName().toString());
            }
            check(tree.getParameters().size() <= MOST_PARAMETERS, method + " has many parameters");
            long last = unit.getLineMap().getLineNumber(
                    trees.getSourcePositions().getEndPosition(unit, tree));
            check(last - line(tree) < MOST_LINES, method + " is long");
            super.visitMethod(tree, v);
            method = "";
            return null;
        }

        private void called(TreePath path) {
            Element e = trees.getElement(path);
            if (!(e instanceof ExecutableElement)) {
                return;
            }
            TypeElement in = (TypeElement) e.getEnclosingElement();
            String owner = in.getQualifiedName().toString();
            if (!method.isEmpty()) {
                calls.get(method).add(nameOf(e));
            }
            if (!owner.startsWith("TwiceOnce")) {
                check(LIBRARY.contains(owner), "calls " + owner + "." + e);
                check(!e.getSimpleName().toString().endsWith("Exact"), "calls " + e);
            }
        }

        @Override
        public Void visitMethodInvocation(MethodInvocationTree tree, Void v) {
            called(new TreePath(getCurrentPath(), tree.getMethodSelect()));
            return super.visitMethodInvocation(tree, v);
        }

        @Override
        public Void visitNewClass(NewClassTree tree, Void v) {
            check(tree.getClassBody() == null, "an anonymous class");
            called(getCurrentPath());
            return super.visitNewClass(tree, v);
        }
    }

    private static boolean reaches(Map<String, Set<String>> calls, String from, String to) {
        Set<String> seen = new HashSet<>();
        Deque<String> open = new ArrayDeque<>(calls.getOrDefault(from, Set.of()));
        while (!open.isEmpty()) {
            String next = open.pop();
            if (next.equals(to)) {
                return true;
            }
            if (seen.add(next)) {
                open.addAll(calls.getOrDefault(next, Set.of()));
            }
        }
        return false;
    }

    /** The longest chain of calls without one of them twice, so that a recursion is gone once. */
    private static List<String> deepest(Map<String, Set<String>> calls, String from, List<String> path) {
        List<String> best = new ArrayList<>(path);
        for (String next : calls.getOrDefault(from, Set.of())) {
            if (!path.contains(next)) {
                List<String> longer = new ArrayList<>(path);
                longer.add(next);
                List<String> found = deepest(calls, next, longer);
                best = found.size() > best.size() ? found : best;
            }
        }
        return best;
    }

    private static void source() throws Exception {
        JavaCompiler compiler = ToolProvider.getSystemJavaCompiler();
        try (StandardJavaFileManager files = compiler.getStandardFileManager(null, null, null)) {
            JavacTask task = (JavacTask) compiler.getTask(null, files, null, List.of("-proc:none"),
                    null, files.getJavaFileObjects(new File(SOURCE)));
            CompilationUnitTree unit = task.parse().iterator().next();
            task.analyze();
            Scan scan = new Scan(Trees.instance(task), unit);
            scan.scan(new TreePath(unit), null);
            for (Map.Entry<String, String> m : scan.otherNames.entrySet()) {
                check(!scan.publicNames.contains(m.getValue()), m.getKey() + " has a public name");
            }
            Set<String> recursive = new TreeSet<>();
            for (String m : scan.calls.keySet()) {
                if (reaches(scan.calls, m, m)) {
                    recursive.add(m);
                }
                List<String> chain = deepest(scan.calls, m, List.of(m));
                check(chain.size() <= MOST_DEEP, chain.size() + " deep: " + chain);
            }
            check(recursive.equals(Set.of("World.runActs", "World.serve")),
                    "recursive are " + recursive);
            check(scan.calls.size() > 24, "the source was not read");
        }
    }

    public static void main(String[] args) throws Exception {
        face();
        source();
        wrong.forEach(System.out::println);
        System.out.println(wrong.isEmpty() ? "the language is kept" : wrong.size() + " rules broken");
        if (!wrong.isEmpty()) {
            System.exit(1);
        }
    }
}
