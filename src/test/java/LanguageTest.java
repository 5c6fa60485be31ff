import com.sun.source.tree.AssertTree;
import com.sun.source.tree.BlockTree;
import com.sun.source.tree.ClassTree;
import com.sun.source.tree.CompilationUnitTree;
import com.sun.source.tree.IdentifierTree;
import com.sun.source.tree.LambdaExpressionTree;
import com.sun.source.tree.LiteralTree;
import com.sun.source.tree.MemberReferenceTree;
import com.sun.source.tree.MemberSelectTree;
import com.sun.source.tree.MethodInvocationTree;
import com.sun.source.tree.MethodTree;
import com.sun.source.tree.NewClassTree;
import com.sun.source.tree.SynchronizedTree;
import com.sun.source.tree.ThrowTree;
import com.sun.source.tree.Tree;
import com.sun.source.tree.TryTree;
import com.sun.source.tree.VariableTree;
import com.sun.source.util.JavacTask;
import com.sun.source.util.SourcePositions;
import com.sun.source.util.TreeScanner;
import com.sun.source.util.Trees;
import java.io.IOException;
import java.lang.reflect.Constructor;
import java.lang.reflect.Field;
import java.lang.reflect.Method;
import java.lang.reflect.Modifier;
import java.nio.file.Path;
import java.util.HashSet;
import java.util.List;
import java.util.Map;
import java.util.Set;
import java.util.TreeMap;
import java.util.TreeSet;
import javax.tools.JavaCompiler;
import javax.tools.StandardJavaFileManager;
import javax.tools.ToolProvider;

/** The rules of LANGUAGE.md that can be read off the source and the compiled class. */
public final class LanguageTest {
    private static final Path SOURCE = Path.of("src/main/java/FolderRows.java");
    private static final Set<String> FACE = Set.of(
        "machines", "rules", "make", "move", "gone", "write", "send", "sendSome", "change", "thing",
        "bytes", "bulk", "things", "find", "sum", "differ", "apart", "let", "taken", "room", "pieces",
        "fetch", "away", "night", "share", "take", "could", "odd", "count", "trace");
    private static final Set<String> LONG_ANSWERS = Set.of("odd", "trace");
    private static final Set<String> CONSTANTS = Set.of("BAD", "STATE", "FULL", "NONE");
    private static final Set<String> LIBRARY = Set.of("System.arraycopy", "Math.max", "Math.min", "Math.abs");
    private static final int MOST_LINES = 60, MOST_PARAMETERS = 7, MOST_CLASSES = 12, MOST_FIELDS = 20, MOST_DEPTH = 8;
    private static final Checks c = new Checks();

    public static void main(String[] args) throws IOException {
        c.promise(0, "LANGUAGE.md");
        face();
        classesInside();
        source();
        c.end();
    }

    private static void face() {
        Class<?> type = FolderRows.class;
        c.holds("the class is public and final",
            Modifier.isPublic(type.getModifiers()) && Modifier.isFinal(type.getModifiers()));
        Set<String> found = new HashSet<>();
        for (Method m : type.getDeclaredMethods()) {
            if (!Modifier.isPrivate(m.getModifiers())) {
                c.holds(m + " is of the face", FACE.contains(m.getName()) && found.add(m.getName()));
                Class<?> answer = LONG_ANSWERS.contains(m.getName()) ? long.class : int.class;
                c.holds(m + " answers as told", m.getReturnType() == answer);
            }
        }
        c.due("methods of the face", found.size(), FACE.size());
        for (Field f : type.getDeclaredFields()) {
            c.holds(f + " is private or of the face", CONSTANTS.contains(f.getName())
                ? Modifier.isPublic(f.getModifiers()) : Modifier.isPrivate(f.getModifiers()));
        }
        Constructor<?>[] makers = type.getDeclaredConstructors();
        c.holds("there is the one public constructor", makers.length == 1
            && makers[0].getParameterCount() == 0 && Modifier.isPublic(makers[0].getModifiers()));
    }

    private static void classesInside() {
        Set<Class<?>> all = new HashSet<>(List.of(FolderRows.class.getDeclaredClasses()));
        all.add(FolderRows.class);
        c.holds("there are few classes", all.size() <= MOST_CLASSES);
        for (Class<?> type : all) {
            if (type != FolderRows.class) {
                int marks = type.getModifiers();
                c.holds(type + " is static and not public", Modifier.isStatic(marks)
                    && !Modifier.isPublic(marks) && !Modifier.isProtected(marks));
                c.due("classes inside " + type, type.getDeclaredClasses().length, 0);
                for (Method m : type.getDeclaredMethods()) {
                    c.holds(m + " bears no name of the face", !FACE.contains(m.getName()));
                }
            }
            int fields = 0;
            for (Field f : type.getDeclaredFields()) {
                boolean fixed = Modifier.isStatic(f.getModifiers());
                fields += fixed ? 0 : 1;
                c.holds(f + ", being static, is a final number", !fixed
                    || Modifier.isFinal(f.getModifiers()) && f.getType() == int.class);
            }
            c.holds(type + " has few fields", fields <= MOST_FIELDS);
        }
    }

    private static void source() throws IOException {
        JavaCompiler compiler = ToolProvider.getSystemJavaCompiler();
        try (StandardJavaFileManager files = compiler.getStandardFileManager(null, null, null)) {
            JavacTask task = (JavacTask) compiler.getTask(null, files, null, null, null, files.getJavaFileObjects(SOURCE));
            for (CompilationUnitTree unit : task.parse()) {
                c.due("imports", unit.getImports().size(), 0);
                c.holds("there is no package line", unit.getPackage() == null);
                Reader reader = new Reader(unit, Trees.instance(task).getSourcePositions());
                reader.scan(unit, null);
                reader.depths();
            }
        }
    }

    /** Looks at each piece of the source, and at who calls whom, told by names. */
    private static final class Reader extends TreeScanner<Void, Void> {
        private final CompilationUnitTree unit;
        private final SourcePositions positions;
        private final Map<String, Set<String>> calls = new TreeMap<>();
        private String method = "";
        private int open = 0;

        Reader(CompilationUnitTree unit, SourcePositions positions) {
            this.unit = unit;
            this.positions = positions;
        }

        private long line(long position) {
            return unit.getLineMap().getLineNumber(position);
        }

        private void refuse(Tree tree, String what) {
            c.holds("line " + line(positions.getStartPosition(unit, tree)) + " is free of " + what, false);
        }

        @Override public Void visitMethod(MethodTree tree, Void v) {
            long lines = line(positions.getEndPosition(unit, tree)) - line(positions.getStartPosition(unit, tree)) + 1;
            c.holds(tree.getName() + " is short", lines <= MOST_LINES);
            c.holds(tree.getName() + " takes few numbers", tree.getParameters().size() <= MOST_PARAMETERS);
            String before = method;
            method = tree.getName().toString();
            calls.computeIfAbsent(method, m -> new TreeSet<>());
            super.visitMethod(tree, v);
            method = before;
            return null;
        }

        @Override public Void visitMethodInvocation(MethodInvocationTree tree, Void v) {
            Tree called = tree.getMethodSelect();
            if (called instanceof IdentifierTree name) {
                calls.get(method).add(name.getName().toString());
            } else if (called instanceof MemberSelectTree select) {
                calls.get(method).add(select.getIdentifier().toString());
                String whole = select.toString();
                c.holds(whole + " is of the library that is allowed",
                    !Character.isUpperCase(whole.charAt(0)) || LIBRARY.contains(whole));
            }
            return super.visitMethodInvocation(tree, v);
        }

        void depths() {
            for (String name : FACE) {
                c.holds(name + " calls at most " + MOST_DEPTH + " deep", depth(name) <= MOST_DEPTH);
            }
        }

        private int depth(String name) {
            Set<String> next = calls.get(name);
            if (next == null) {
                return 1;
            }
            open++;
            int deepest = 0;
            // No method calls itself, so a longer chain than there are methods is one that turns.
            if (open > calls.size()) {
                c.holds(name + " is not called by itself", false);
            } else {
                for (String other : next) {
                    deepest = Math.max(deepest, depth(other));
                }
            }
            open--;
            return 1 + deepest;
        }

        @Override public Void visitThrow(ThrowTree tree, Void v) {
            refuse(tree, "throw");
            return super.visitThrow(tree, v);
        }

        @Override public Void visitTry(TryTree tree, Void v) {
            refuse(tree, "try");
            return super.visitTry(tree, v);
        }

        @Override public Void visitAssert(AssertTree tree, Void v) {
            refuse(tree, "assert");
            return super.visitAssert(tree, v);
        }

        @Override public Void visitSynchronized(SynchronizedTree tree, Void v) {
            refuse(tree, "synchronized");
            return super.visitSynchronized(tree, v);
        }

        @Override public Void visitLambdaExpression(LambdaExpressionTree tree, Void v) {
            refuse(tree, "a lambda");
            return super.visitLambdaExpression(tree, v);
        }

        @Override public Void visitMemberReference(MemberReferenceTree tree, Void v) {
            refuse(tree, "a method reference");
            return super.visitMemberReference(tree, v);
        }

        @Override public Void visitLiteral(LiteralTree tree, Void v) {
            if (tree.getKind() == Tree.Kind.STRING_LITERAL) {
                refuse(tree, "texts, which the class has no need of");
            }
            return super.visitLiteral(tree, v);
        }

        @Override public Void visitNewClass(NewClassTree tree, Void v) {
            if (tree.getClassBody() != null) {
                refuse(tree, "a class without a name");
            }
            return super.visitNewClass(tree, v);
        }

        @Override public Void visitBlock(BlockTree tree, Void v) {
            for (Tree inside : tree.getStatements()) {
                if (inside instanceof ClassTree) {
                    refuse(inside, "a local class");
                }
            }
            return super.visitBlock(tree, v);
        }

        @Override public Void visitClass(ClassTree tree, Void v) {
            for (Tree member : tree.getMembers()) {
                c.holds("there is no initialiser block", member.getKind() != Tree.Kind.BLOCK);
                c.holds("a member is of a kind that is told", member instanceof MethodTree
                    || member instanceof VariableTree || member instanceof ClassTree);
            }
            return super.visitClass(tree, v);
        }
    }
}
