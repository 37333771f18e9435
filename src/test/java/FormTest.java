import com.sun.source.tree.AssertTree;
import com.sun.source.tree.BinaryTree;
import com.sun.source.tree.ClassTree;
import com.sun.source.tree.CompilationUnitTree;
import com.sun.source.tree.DoWhileLoopTree;
import com.sun.source.tree.EnhancedForLoopTree;
import com.sun.source.tree.ExpressionTree;
import com.sun.source.tree.ForLoopTree;
import com.sun.source.tree.IdentifierTree;
import com.sun.source.tree.ImportTree;
import com.sun.source.tree.LambdaExpressionTree;
import com.sun.source.tree.LiteralTree;
import com.sun.source.tree.MemberReferenceTree;
import com.sun.source.tree.MethodInvocationTree;
import com.sun.source.tree.MethodTree;
import com.sun.source.tree.NewArrayTree;
import com.sun.source.tree.NewClassTree;
import com.sun.source.tree.SynchronizedTree;
import com.sun.source.tree.ThrowTree;
import com.sun.source.tree.Tree;
import com.sun.source.tree.TryTree;
import com.sun.source.tree.TypeCastTree;
import com.sun.source.tree.VariableTree;
import com.sun.source.tree.WhileLoopTree;
import com.sun.source.util.JavacTask;
import com.sun.source.util.SourcePositions;
import com.sun.source.util.TreePathScanner;
import com.sun.source.util.Trees;
import java.io.File;
import java.io.IOException;
import java.util.ArrayList;
import java.util.HashMap;
import java.util.List;
import java.util.Map;
import java.util.Set;
import java.util.TreeMap;
import java.util.TreeSet;
import javax.lang.model.element.Element;
import javax.lang.model.element.ElementKind;
import javax.lang.model.element.ExecutableElement;
import javax.lang.model.element.Modifier;
import javax.lang.model.type.TypeMirror;
import javax.tools.JavaCompiler;
import javax.tools.StandardJavaFileManager;
import javax.tools.ToolProvider;

/** The rules of LANGUAGE.md that can be seen in the text of the class; FaceTest has those of the face. */
public final class FormTest {
    private static final String SOURCE = "src/main/java/BowlShelf.java";
    private static final Set<String> LIBRARY = Set.of("java.util.Arrays.fill", "java.util.Arrays.copyOf",
        "java.util.Arrays.copyOfRange", "java.lang.System.arraycopy", "java.lang.String.length", "java.lang.String.charAt",
        "java.lang.String.isEmpty", "java.lang.String.equals", "java.lang.String.indexOf", "java.lang.String.substring",
        "java.lang.Math.max", "java.lang.Math.min", "java.lang.Math.abs", "java.lang.Math.floorDiv",
        "java.lang.Math.floorMod", "java.lang.Integer.bitCount", "java.lang.Integer.lowestOneBit",
        "java.lang.Integer.compare", "java.lang.Long.compare", "java.lang.Object.<init>");
    private static final Set<String> EXCEPTIONS = Set.of("IllegalStateException", "IllegalArgumentException",
        "IndexOutOfBoundsException", "ArithmeticException", "UnsupportedOperationException", "NoSuchElementException",
        "RuntimeException");
    private static final Set<String> TYPES = Set.of("int", "long", "short", "byte", "char", "boolean", "void",
        "int[]", "long[]", "char[]", "byte[]", "java.lang.String");
    private static final Set<String> STATIC_TYPES = Set.of("int", "long", "boolean", "char", "java.lang.String",
        "int[]", "long[]", "char[]", "byte[]");

    private static final Map<String, Set<String>> CALLS = new TreeMap<>();
    private static final Map<String, MethodTree> METHODS = new HashMap<>();
    private static int classes = 0;

    private FormTest() {
    }

    public static void main(String[] args) throws IOException {
        JavaCompiler compiler = ToolProvider.getSystemJavaCompiler();
        try (StandardJavaFileManager files = compiler.getStandardFileManager(null, null, null)) {
            JavacTask task = (JavacTask) compiler.getTask(null, files, null, List.of("-proc:none"), null,
                files.getJavaFileObjects(new File(SOURCE)));
            CompilationUnitTree unit = task.parse().iterator().next();
            task.analyze();
            Check.says("one file without a package line");
            Check.due("a package", unit.getPackageName() != null, false);
            new Look(unit, Trees.instance(task)).scan(unit, null);
        }
        Check.says("the file has at most some twelve classes");
        Check.due(classes + " classes", classes <= 12, true);
        depth();
        Check.end("FormTest");
    }

    private static void depth() {
        Check.says("calls that are no recursion go at most eight deep");
        Map<String, Set<String>> reach = new HashMap<>();
        for (String method : CALLS.keySet()) {
            reach.put(method, reachOf(method));
        }
        for (String method : CALLS.keySet()) {
            int deep = depthOf(method, reach, new HashMap<>());
            Check.due(method + " goes " + deep + " deep", deep <= 8, true);
        }
        Check.says("private methods that call one another: the depth is carried as an argument");
        for (String method : CALLS.keySet()) {
            if (reach.get(method).contains(method)) {
                MethodTree tree = METHODS.get(method);
                Check.due(method + " is private", tree.getModifiers().getFlags().contains(Modifier.PRIVATE), true);
                boolean counted = tree.getParameters().stream().anyMatch(p -> p.getType().toString().equals("int"));
                Check.due(method + " carries a number", counted, true);
            }
        }
    }

    private static Set<String> reachOf(String method) {
        Set<String> seen = new TreeSet<>();
        List<String> open = new ArrayList<>(CALLS.get(method));
        while (!open.isEmpty()) {
            String next = open.remove(open.size() - 1);
            if (seen.add(next)) {
                open.addAll(CALLS.getOrDefault(next, Set.of()));
            }
        }
        return seen;
    }

    /** The longest chain of calls; of methods that call one another only the way into them and out counts. */
    private static int depthOf(String method, Map<String, Set<String>> reach, Map<String, Integer> known) {
        Integer before = known.get(method);
        if (before != null) {
            return before;
        }
        int deepest = 0;
        for (String member : reach.get(method)) {
            boolean ring = reach.get(member).contains(method);
            if (!ring) {
                deepest = Math.max(deepest, depthOf(member, reach, known));
            }
        }
        known.put(method, deepest + 1);
        return deepest + 1;
    }

    /** Goes through the text once. */
    private static final class Look extends TreePathScanner<Void, Void> {
        private final CompilationUnitTree unit;
        private final Trees trees;
        private String method = "";
        private boolean inConstructor;
        private int loops;

        Look(CompilationUnitTree unit, Trees trees) {
            this.unit = unit;
            this.trees = trees;
        }

        private Element element() {
            return trees.getElement(getCurrentPath());
        }

        private static String nameOf(ExecutableElement e) {
            return e.getEnclosingElement() + "." + e.getSimpleName() + e.getParameters();
        }

        private long line(long position) {
            return unit.getLineMap().getLineNumber(position);
        }

        private void never(String what, Tree tree) {
            Check.due(what + " at line " + line(trees.getSourcePositions().getStartPosition(unit, tree)), 1, 0);
        }

        @Override
        public Void visitImport(ImportTree tree, Void p) {
            Check.says("no library but what it lists");
            String name = tree.getQualifiedIdentifier().toString();
            boolean listed = name.equals("java.util.Arrays") || name.equals("java.util.NoSuchElementException");
            Check.due("import " + name, listed, true);
            return super.visitImport(tree, p);
        }

        @Override
        public Void visitClass(ClassTree tree, Void p) {
            classes++;
            Check.says("a class some twenty fields beside its constants; static fields are final");
            int fields = 0;
            for (Tree member : tree.getMembers()) {
                if (member instanceof VariableTree field) {
                    fields += isStatic(field) ? 0 : 1;
                    boolean constant = isStatic(field) && field.getModifiers().getFlags().contains(Modifier.FINAL);
                    Check.due("static and not final: " + field, isStatic(field) && !constant, false);
                }
                Check.due("a block of " + tree.getSimpleName(), member.getKind() == Tree.Kind.BLOCK, false);
            }
            Check.due(tree.getSimpleName() + " has " + fields + " fields", fields <= 20, true);
            Element e = element();
            Check.due("a class in a method: " + e, e.getEnclosingElement().getKind() == ElementKind.METHOD, false);
            return super.visitClass(tree, p);
        }

        private static boolean isStatic(VariableTree field) {
            return field.getModifiers().getFlags().contains(Modifier.STATIC);
        }

        @Override
        public Void visitMethod(MethodTree tree, Void p) {
            ExecutableElement e = (ExecutableElement) element();
            method = nameOf(e);
            inConstructor = e.getKind() == ElementKind.CONSTRUCTOR;
            CALLS.putIfAbsent(method, new TreeSet<>());
            METHODS.put(method, tree);
            Check.says("a method takes at most seven parameters; methods stay short (some sixty lines)");
            Check.due(method + " parameters", tree.getParameters().size() <= 7, true);
            SourcePositions places = trees.getSourcePositions();
            long end = places.getEndPosition(unit, tree);
            if (end > 0) {
                long lines = line(end) - line(places.getStartPosition(unit, tree)) + 1;
                Check.due(method + " has " + lines + " lines", lines <= 60, true);
            }
            type(e.getReturnType(), tree);
            Void answer = super.visitMethod(tree, p);
            method = "";
            inConstructor = false;
            return answer;
        }

        private void type(TypeMirror mirror, Tree tree) {
            Check.says("types: numbers, texts, own classes, arrays of one dimension");
            String name = mirror.toString();
            String bare = name.endsWith("[]") ? name.substring(0, name.length() - 2) : name;
            boolean own = bare.equals("BowlShelf") || bare.startsWith("BowlShelf.");
            Check.due("type " + name + " in " + tree, own || TYPES.contains(name), true);
        }

        @Override
        public Void visitVariable(VariableTree tree, Void p) {
            Element e = element();
            type(e.asType(), tree);
            if (e.getKind() == ElementKind.FIELD && isStatic(tree)) {
                Check.due("static " + tree, STATIC_TYPES.contains(e.asType().toString()), true);
            }
            return super.visitVariable(tree, p);
        }

        @Override
        public Void visitMethodInvocation(MethodInvocationTree tree, Void p) {
            called((ExecutableElement) element());
            return super.visitMethodInvocation(tree, p);
        }

        private void called(ExecutableElement e) {
            String owner = e.getEnclosingElement().toString();
            if (owner.equals("BowlShelf") || owner.startsWith("BowlShelf.")) {
                CALLS.computeIfAbsent(method, m -> new TreeSet<>()).add(nameOf(e));
                return;
            }
            Check.says("the library: only what stands here");
            Check.due(owner + "." + e.getSimpleName(), LIBRARY.contains(owner + "." + e.getSimpleName()), true);
        }

        @Override
        public Void visitNewClass(NewClassTree tree, Void p) {
            String made = tree.getIdentifier().toString();
            Check.says("an object may be made by any method, and none in a loop without a bound");
            Check.due("new " + made + " in a loop", loops > 0 && !inConstructor, false);
            if (!EXCEPTIONS.contains(made)) {
                called((ExecutableElement) element());
            }
            if (tree.getClassBody() != null) {
                never("a class without a name", tree);
            }
            return super.visitNewClass(tree, p);
        }

        @Override
        public Void visitNewArray(NewArrayTree tree, Void p) {
            Check.says("an object may be made by any method, and none in a loop without a bound");
            Check.due("a new row in a loop", loops > 0, false);
            return super.visitNewArray(tree, p);
        }

        @Override
        public Void visitThrow(ThrowTree tree, Void p) {
            Check.says("throw new E() or throw new E(\"a written text\"); no throw in a constructor");
            Check.due("throw in a constructor", inConstructor, false);
            ExpressionTree thrown = tree.getExpression();
            boolean plain = thrown instanceof NewClassTree made && made.getIdentifier() instanceof IdentifierTree kind
                && EXCEPTIONS.contains(kind.toString()) && made.getArguments().size() <= 1
                && made.getArguments().stream().allMatch(a -> a instanceof LiteralTree);
            Check.due(tree.toString(), plain, true);
            return super.visitThrow(tree, p);
        }

        @Override
        public Void visitBinary(BinaryTree tree, Void p) {
            if (tree.getKind() == Tree.Kind.PLUS) {
                Check.says("joining texts by StringBuilder (not by +)");
                TypeMirror mirror = trees.getTypeMirror(getCurrentPath());
                Check.due("texts joined: " + tree, mirror.toString().equals("java.lang.String"), false);
            }
            return super.visitBinary(tree, p);
        }

        @Override
        public Void visitTypeCast(TypeCastTree tree, Void p) {
            Check.says("a cast only behind the test that makes it safe");
            String to = tree.getType().toString();
            Check.due("a cast to " + to, to.equals("int") || to.equals("char") || to.equals("long"), true);
            return super.visitTypeCast(tree, p);
        }

        @Override
        public Void visitForLoop(ForLoopTree tree, Void p) {
            Check.says("every loop has an end that can be seen from its own lines");
            Check.due("a condition: " + tree, tree.getCondition() != null && !tree.getUpdate().isEmpty(), true);
            loops++;
            Void answer = super.visitForLoop(tree, p);
            loops--;
            return answer;
        }

        @Override
        public Void visitWhileLoop(WhileLoopTree tree, Void p) {
            Check.says("every loop has an end that can be seen from its own lines");
            Check.due("a bound: " + tree, tree.getCondition().toString().contains(" < length"), true);
            loops++;
            Void answer = super.visitWhileLoop(tree, p);
            loops--;
            return answer;
        }

        @Override
        public Void visitDoWhileLoop(DoWhileLoopTree tree, Void p) {
            never("do", tree);
            return super.visitDoWhileLoop(tree, p);
        }

        @Override
        public Void visitEnhancedForLoop(EnhancedForLoopTree tree, Void p) {
            never("for over a list", tree);
            return super.visitEnhancedForLoop(tree, p);
        }

        @Override
        public Void visitLambdaExpression(LambdaExpressionTree tree, Void p) {
            never("a lambda", tree);
            return super.visitLambdaExpression(tree, p);
        }

        @Override
        public Void visitMemberReference(MemberReferenceTree tree, Void p) {
            never("a method reference", tree);
            return super.visitMemberReference(tree, p);
        }

        @Override
        public Void visitTry(TryTree tree, Void p) {
            never("try (the class needs none)", tree);
            return super.visitTry(tree, p);
        }

        @Override
        public Void visitSynchronized(SynchronizedTree tree, Void p) {
            never("synchronized", tree);
            return super.visitSynchronized(tree, p);
        }

        @Override
        public Void visitAssert(AssertTree tree, Void p) {
            never("assert", tree);
            return super.visitAssert(tree, p);
        }
    }
}
