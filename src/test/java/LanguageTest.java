import com.sun.source.tree.*;
import com.sun.source.util.*;
import java.io.File;
import java.lang.reflect.*;
import java.nio.file.*;
import java.util.*;
import javax.lang.model.element.Element;
import javax.lang.model.element.ExecutableElement;
import javax.tools.*;

/** The public face, and those rules of LANGUAGE.md that can be seen in the source. */
public final class LanguageTest {
    private static final Check check = new Check();

    public static void main(String[] args) throws Exception {
        face();
        constants();
        source(new File(System.getProperty("root"), "src/main/java/LoopEnvelopes.java"));
        check.end();
    }

    private static void face() {
        Class<?> face = LoopEnvelopes.class;
        check.due("modifiers", Modifier.toString(face.getModifiers()), "public final");
        check.due("what it extends", face.getSuperclass().getName(), "java.lang.Object");
        TreeSet<String> methods = new TreeSet<>();
        Set<String> open = new HashSet<>();
        for (Method method : face.getDeclaredMethods()) {
            if (!Modifier.isPrivate(method.getModifiers())) {
                methods.add(method.toString().replace("LoopEnvelopes.", ""));
                open.add(method.getName());
            }
        }
        TreeSet<String> want = new TreeSet<>(List.of("feed(long,int)", "set(int,int)", "cut(int)", "read()", "where()",
                "count(int)", "group(int,int)", "setOf(int,int)", "fault(int,int,int)", "level(int,int,int)",
                "claim(int,int,int)", "size(int,int)", "byteOf(int,int,int)", "answer()", "answered(int)", "turn()"));
        StringBuilder all = new StringBuilder();
        want.forEach(call -> all.append("public int ").append(call).append(' '));
        TreeSet<String> due = new TreeSet<>(List.of(all.toString().trim().split(" (?=public)")));
        check.due("the public methods", methods.toString(), due.toString());
        for (Class<?> inside : withInside(face)) {
            for (Method method : inside.getDeclaredMethods()) {
                boolean again = Modifier.isPrivate(method.getModifiers()) && open.contains(method.getName());
                check.due("a private method bears the public name " + method.getName(), again ? 1 : 0, 0);
            }
            check.due("static " + inside, inside == face || Modifier.isStatic(inside.getModifiers()) ? 1 : 0, 1);
            check.due("not public " + inside, inside != face && Modifier.isPublic(inside.getModifiers()) ? 1 : 0, 0);
            long fields = Arrays.stream(inside.getDeclaredFields()).filter(f -> !Modifier.isStatic(f.getModifiers())).count();
            check.due("more than 20 fields in " + inside, fields > 20 ? 1 : 0, 0);
        }
        check.due("more than 12 classes", withInside(face).size() > 12 ? 1 : 0, 0);
        check.due("constructors", Arrays.toString(face.getDeclaredConstructors()), "[public LoopEnvelopes()]");
    }

    private static List<Class<?>> withInside(Class<?> face) {
        List<Class<?>> all = new ArrayList<>(List.of(face));
        all.addAll(List.of(face.getDeclaredClasses()));
        return all;
    }

    private static void constants() {
        int[] got = {LoopEnvelopes.NONE, LoopEnvelopes.UNKNOWN, LoopEnvelopes.OUTSIDE, LoopEnvelopes.NOT, LoopEnvelopes.FULL};
        check.due("the constants", Arrays.toString(got), "[-1, -2, -3, -4, -5]");
        int open = 0;
        for (Field field : LoopEnvelopes.class.getDeclaredFields()) {
            if (!Modifier.isPrivate(field.getModifiers())) {
                open++;
                check.due(field.getName(), Modifier.toString(field.getModifiers()), "public static final");
            }
        }
        check.due("open fields", open, 5);
        for (Class<?> inside : withInside(LoopEnvelopes.class)) {
            for (Field field : inside.getDeclaredFields()) {
                boolean loose = Modifier.isStatic(field.getModifiers()) && !Modifier.isFinal(field.getModifiers());
                check.due("a static field that can change: " + field, loose ? 1 : 0, 0);
            }
        }
    }

    private static void source(File file) throws Exception {
        JavaCompiler compiler = ToolProvider.getSystemJavaCompiler();
        StandardJavaFileManager files = compiler.getStandardFileManager(null, null, null);
        JavacTask task = (JavacTask) compiler.getTask(null, files, null, List.of("-proc:none"), null,
                files.getJavaFileObjects(file));
        CompilationUnitTree unit = task.parse().iterator().next();
        task.analyze();
        check.due("imports", unit.getImports().size(), 0);
        check.due("a package line", unit.getPackageName() == null ? 0 : 1, 0);
        for (byte b : Files.readAllBytes(file.toPath())) {
            if (b <= 0) {
                check.due("a sign beyond 127", b, 1);
            }
        }
        Rules rules = new Rules(Trees.instance(task), unit);
        rules.scan(unit, null);
        for (ExecutableElement method : rules.calls.keySet()) {
            int deep = rules.depth(method, 0);
            check.due("calls that stand open in " + method + " (9: too deep)", Math.max(deep, 8), 8);
        }
    }

    /** Walks the source, notes what the rules forbid, and which method calls which. */
    private static final class Rules extends TreePathScanner<Void, Void> {
        private static final Set<Tree.Kind> FORBIDDEN = EnumSet.of(Tree.Kind.THROW, Tree.Kind.TRY, Tree.Kind.CATCH,
                Tree.Kind.SYNCHRONIZED, Tree.Kind.ASSERT, Tree.Kind.LAMBDA_EXPRESSION, Tree.Kind.MEMBER_REFERENCE,
                Tree.Kind.ANNOTATION);
        private static final Set<String> LIBRARY = Set.of("Math.max", "Math.min");

        final Map<ExecutableElement, Set<ExecutableElement>> calls = new LinkedHashMap<>();
        private final Trees trees;
        private final CompilationUnitTree unit;
        private ExecutableElement at;
        private int loops = 0;

        Rules(Trees trees, CompilationUnitTree unit) {
            this.trees = trees;
            this.unit = unit;
        }

        @Override
        public Void scan(Tree tree, Void nothing) {
            if (tree != null && FORBIDDEN.contains(tree.getKind())) {
                check.due("forbidden: " + tree, 1, 0);
            }
            return super.scan(tree, nothing);
        }

        @Override
        public Void visitMethod(MethodTree method, Void nothing) {
            ExecutableElement outer = at;
            at = (ExecutableElement) trees.getElement(getCurrentPath());
            calls.put(at, new LinkedHashSet<>());
            check.due("more than 7 parameters: " + method.getName(), method.getParameters().size() > 7 ? 1 : 0, 0);
            long from = trees.getSourcePositions().getStartPosition(unit, method);
            long to = trees.getSourcePositions().getEndPosition(unit, method);
            long lines = unit.getLineMap().getLineNumber(to) - unit.getLineMap().getLineNumber(from) + 1;
            check.due("more than 60 lines: " + method.getName(), lines > 60 ? 1 : 0, 0);
            super.visitMethod(method, nothing);
            at = outer;
            return null;
        }

        @Override
        public Void visitMethodInvocation(MethodInvocationTree call, Void nothing) {
            note(trees.getElement(getCurrentPath()), call.getMethodSelect().toString());
            return super.visitMethodInvocation(call, nothing);
        }

        @Override
        public Void visitNewClass(NewClassTree made, Void nothing) {
            note(trees.getElement(getCurrentPath()), "new " + made.getIdentifier());
            check.due("an object made in a loop: " + made, loops, 0);
            check.due("an anonymous class: " + made, made.getClassBody() == null ? 0 : 1, 0);
            return super.visitNewClass(made, nothing);
        }

        @Override
        public Void visitNewArray(NewArrayTree made, Void nothing) {
            check.due("an array made outside a constructor: " + made, at != null && at.getReturnType().toString().equals("void")
                    && at.getSimpleName().contentEquals("<init>") ? 1 : 0, 1);
            return super.visitNewArray(made, nothing);
        }

        @Override
        public Void visitForLoop(ForLoopTree loop, Void nothing) {
            loops++;
            check.due("a loop without a condition", loop.getCondition() == null ? 1 : 0, 0);
            super.visitForLoop(loop, nothing);
            loops--;
            return null;
        }

        @Override
        public Void visitArrayAccess(ArrayAccessTree access, Void nothing) {
            String in = at.getEnclosingElement().getSimpleName().toString();
            check.due("an index outside Bytes and Table: " + access, in.equals("Bytes") || in.equals("Table") ? 1 : 0, 1);
            return super.visitArrayAccess(access, nothing);
        }

        @Override
        public Void visitBinary(BinaryTree operation, Void nothing) {
            boolean divides = operation.getKind() == Tree.Kind.DIVIDE || operation.getKind() == Tree.Kind.REMAINDER;
            boolean constant = operation.getRightOperand().getKind() == Tree.Kind.INT_LITERAL;
            check.due("a divisor that is no constant: " + operation, divides && !constant && at != null ? 1 : 0, 0);
            return super.visitBinary(operation, nothing);
        }

        private void note(Element called, String how) {
            if (at == null || !(called instanceof ExecutableElement)) {
                return;
            }
            String owner = called.getEnclosingElement().toString();
            if (owner.startsWith("LoopEnvelopes")) {
                calls.get(at).add((ExecutableElement) called);
            } else if (!how.equals("super")) {
                check.due("a library call that is not known here: " + how, LIBRARY.contains(how) ? 1 : 0, 1);
                calls.get(at).add((ExecutableElement) called);
            }
        }

        /** How many calls stand open at most, this one too. */
        int depth(ExecutableElement method, int above) {
            if (above > 20) {
                return 1;
            }
            int most = 0;
            for (ExecutableElement called : calls.getOrDefault(method, Set.of())) {
                most = Math.max(most, depth(called, above + 1));
            }
            return most + 1;
        }
    }
}
