import com.sun.source.tree.ClassTree;
import com.sun.source.tree.CompilationUnitTree;
import com.sun.source.tree.MethodInvocationTree;
import com.sun.source.tree.MethodTree;
import com.sun.source.tree.NewArrayTree;
import com.sun.source.tree.NewClassTree;
import com.sun.source.tree.Tree;
import com.sun.source.util.JavacTask;
import com.sun.source.util.SourcePositions;
import com.sun.source.util.TreePathScanner;
import com.sun.source.util.Trees;
import java.lang.management.ManagementFactory;
import java.lang.reflect.Field;
import java.lang.reflect.Method;
import java.lang.reflect.Modifier;
import java.nio.file.Path;
import java.util.Arrays;
import java.util.HashMap;
import java.util.HashSet;
import java.util.List;
import java.util.Map;
import java.util.Set;
import java.util.TreeSet;
import javax.lang.model.element.Element;
import javax.lang.model.element.ExecutableElement;
import javax.tools.JavaCompiler;
import javax.tools.StandardJavaFileManager;
import javax.tools.ToolProvider;

/** Looks after those rules of LANGUAGE.md, and of the face, that a program can look after. */
public final class RulesTests {
    private static final Set<String> FACE = new TreeSet<>(List.of("type 1", "clear 0", "tells 0", "resets 0",
        "reads 1", "writes 2", "sets 2", "breaks 2", "undo 0", "field 2", "register 2", "alias 2", "at 1",
        "peek 2", "differed 1", "log 2", "suspects 1", "clashes 1", "touched 2", "way 2", "walk 2", "keep 1",
        "back 1", "count 1"));
    private static final Set<Tree.Kind> FORBIDDEN = Set.of(Tree.Kind.THROW, Tree.Kind.TRY, Tree.Kind.CATCH,
        Tree.Kind.SYNCHRONIZED, Tree.Kind.ASSERT, Tree.Kind.LAMBDA_EXPRESSION, Tree.Kind.MEMBER_REFERENCE,
        Tree.Kind.IMPORT, Tree.Kind.PACKAGE, Tree.Kind.SWITCH_EXPRESSION, Tree.Kind.ANNOTATION);
    private static final Set<String> LIBRARY = Set.of("java.lang.Object.<init>", "java.lang.Math.min",
        "java.lang.Integer.bitCount", "java.lang.System.arraycopy");
    private static final int DEEPEST = 8;
    private static final int MOST_LINES = 60;

    private static int wrong;

    public static void main(String[] args) throws Exception {
        checkFace();
        checkConstants();
        checkClass(MirrorBytes.class);
        for (Class<?> inner : MirrorBytes.class.getDeclaredClasses()) {
            check(Modifier.isStatic(inner.getModifiers()), inner + " is not static");
            check(Modifier.isPrivate(inner.getModifiers()), inner + " is not private");
            checkClass(inner);
        }
        check(MirrorBytes.class.getDeclaredClasses().length < 12, "too many classes");
        new SourceScan().carryOut(Path.of("src/main/java/MirrorBytes.java"));
        checkRoom();
        System.out.println("rules: " + wrong + " broken");
        if (wrong != 0) {
            System.exit(1);
        }
    }

    private static void check(boolean holds, String otherwise) {
        if (!holds) {
            wrong++;
            System.out.println(otherwise);
        }
    }

    private static void checkFace() {
        Set<String> found = new TreeSet<>();
        for (Method m : MirrorBytes.class.getDeclaredMethods()) {
            if (Modifier.isPublic(m.getModifiers())) {
                found.add(m.getName() + " " + m.getParameterCount());
                check(m.getReturnType() == int.class, m + " does not answer an int");
                check(Arrays.stream(m.getParameterTypes()).allMatch(t -> t == int.class), m + " takes no ints");
                check(!Modifier.isStatic(m.getModifiers()), m + " is static");
            } else {
                check(Modifier.isPrivate(m.getModifiers()), m + " is neither public nor private");
            }
        }
        check(found.equals(FACE), "the face is " + found);
        check(Modifier.isPublic(MirrorBytes.class.getModifiers()), "the class is not public");
        check(Modifier.isFinal(MirrorBytes.class.getModifiers()), "the class is not final");
        check(MirrorBytes.class.getConstructors().length == 1
            && MirrorBytes.class.getDeclaredConstructors().length == 1, "the constructors");
    }

    private static void checkConstants() {
        check(MirrorBytes.BAD == -1, "BAD");
        check(MirrorBytes.STATE == -2, "STATE");
        check(MirrorBytes.FULL == -3, "FULL");
        check(MirrorBytes.NONE == -9, "NONE");
        List<String> open = List.of("BAD", "STATE", "FULL", "NONE");
        for (Field f : MirrorBytes.class.getDeclaredFields()) {
            boolean named = open.contains(f.getName());
            check(named ? Modifier.isPublic(f.getModifiers()) : Modifier.isPrivate(f.getModifiers()),
                f + " has the wrong visibility");
        }
    }

    private static void checkClass(Class<?> c) {
        int fields = 0;
        for (Field f : c.getDeclaredFields()) {
            if (Modifier.isStatic(f.getModifiers())) {
                check(Modifier.isFinal(f.getModifiers()), f + " is not final");
            } else {
                fields++;
            }
        }
        check(fields <= 20, c + " has " + fields + " fields");
        for (Method m : c.getDeclaredMethods()) {
            check(m.getParameterCount() <= 7, m + " has too many parameters");
            boolean open = FACE.stream().anyMatch(name -> name.startsWith(m.getName() + " "));
            check(Modifier.isPublic(m.getModifiers()) || !open, m + " bears the name of a public one");
        }
    }

    /** Scans the source: what stands in it, the length of methods, and how deep calls go. */
    private static final class SourceScan extends TreePathScanner<Void, Void> {
        private final Map<Element, Set<Element>> called = new HashMap<>();
        private Trees trees;
        private SourcePositions positions;
        private CompilationUnitTree unit;
        private Element method;

        void carryOut(Path source) throws Exception {
            JavaCompiler compiler = ToolProvider.getSystemJavaCompiler();
            try (StandardJavaFileManager files = compiler.getStandardFileManager(null, null, null)) {
                JavacTask task = (JavacTask) compiler.getTask(null, files, null, null, null,
                    files.getJavaFileObjects(source));
                trees = Trees.instance(task);
                positions = trees.getSourcePositions();
                unit = task.parse().iterator().next();
                task.analyze();
                scan(unit, null);
            }
            for (Element start : called.keySet()) {
                int depth = depthFrom(start, new HashSet<>());
                check(depth <= DEEPEST, start + " goes " + depth + " calls deep");
            }
        }

        private int depthFrom(Element start, Set<Element> open) {
            if (!open.add(start)) {
                check(false, start + " calls itself");
                return 0;
            }
            int deepest = 0;
            for (Element next : called.getOrDefault(start, Set.of())) {
                deepest = Math.max(deepest, depthFrom(next, open));
            }
            open.remove(start);
            return deepest + 1;
        }

        @Override
        public Void scan(Tree tree, Void unused) {
            if (tree != null) {
                check(!FORBIDDEN.contains(tree.getKind()), "the source has " + tree.getKind() + ": " + tree);
            }
            return super.scan(tree, unused);
        }

        @Override
        public Void visitClass(ClassTree tree, Void unused) {
            Element outer = method;
            method = null;
            super.visitClass(tree, unused);
            method = outer;
            return null;
        }

        @Override
        public Void visitMethod(MethodTree tree, Void unused) {
            method = trees.getElement(getCurrentPath());
            called.putIfAbsent(method, new HashSet<>());
            // A constructor that is not written has no place in the text.
            long end = positions.getEndPosition(unit, tree);
            if (end >= 0) {
                long lines = unit.getLineMap().getLineNumber(end)
                    - unit.getLineMap().getLineNumber(positions.getStartPosition(unit, tree)) + 1;
                check(lines <= MOST_LINES, method + " has " + lines + " lines");
            }
            super.visitMethod(tree, unused);
            method = null;
            return null;
        }

        @Override
        public Void visitMethodInvocation(MethodInvocationTree tree, Void unused) {
            noteCall(trees.getElement(getCurrentPath()));
            return super.visitMethodInvocation(tree, unused);
        }

        @Override
        public Void visitNewClass(NewClassTree tree, Void unused) {
            checkOnlyInConstructor(tree);
            noteCall(trees.getElement(getCurrentPath()));
            return super.visitNewClass(tree, unused);
        }

        @Override
        public Void visitNewArray(NewArrayTree tree, Void unused) {
            checkOnlyInConstructor(tree);
            return super.visitNewArray(tree, unused);
        }

        private void checkOnlyInConstructor(Tree tree) {
            check(method == null || method.getSimpleName().contentEquals("<init>"),
                method + " makes an object: " + tree);
        }

        private void noteCall(Element target) {
            if (!(target instanceof ExecutableElement)) {
                return;
            }
            String owner = target.getEnclosingElement().toString();
            if (owner.startsWith("MirrorBytes")) {
                if (method != null) {
                    called.computeIfAbsent(method, m -> new HashSet<>()).add(target);
                }
            } else {
                String name = owner + "." + target.getSimpleName();
                check(LIBRARY.contains(name), "the source uses " + name);
            }
        }
    }

    /** No call but the constructor makes an object. */
    private static void checkRoom() {
        com.sun.management.ThreadMXBean threads =
            (com.sun.management.ThreadMXBean) ManagementFactory.getThreadMXBean();
        MirrorBytes x = new MirrorBytes();
        useAll(x);
        long before = threads.getCurrentThreadAllocatedBytes();
        MirrorBytes another = new MirrorBytes();
        long made = threads.getCurrentThreadAllocatedBytes() - before;
        check(made < 20_000, "a new object takes " + made + " bytes");
        useAll(another);
        long start = threads.getCurrentThreadAllocatedBytes();
        useAll(another);
        long used = threads.getCurrentThreadAllocatedBytes() - start;
        // The measuring itself, and classes loaded meanwhile, may take a little.
        check(used < 2_000, "the calls took " + used + " bytes");
        System.out.println("a new object takes " + made + " bytes, a round of all calls " + used);
    }

    private static final char[] TEXT = "r1;f rw 0 3 5;f rc 4 7 9;r2;f on 0 7 1;s1 0;a3 0 wt;k1 1;".toCharArray();

    private static void useAll(MirrorBytes x) {
        x.clear();
        for (char letter : TEXT) {
            x.type(letter);
        }
        check(x.tells() == 8, "the text of the room is not read");
        x.writes(2, 5);
        x.reads(1);
        x.writes(1, 77);
        x.sets(0, 1);
        x.breaks(0, 1);
        x.keep(0);
        x.undo();
        x.back(0);
        for (int i = -1; i < 8; i++) {
            x.field(0, i);
            x.register(0, i);
            x.alias(0, i);
            x.at(i);
            x.peek(1, i);
            x.differed(i);
            x.log(i, 0);
            x.suspects(i);
            x.clashes(i);
            x.touched(i, 3);
            x.way(2, i);
            x.walk(i, 1);
            x.count(i);
        }
        x.resets();
    }
}
