import com.sun.source.tree.AssertTree;
import com.sun.source.tree.BinaryTree;
import com.sun.source.tree.ClassTree;
import com.sun.source.tree.CompilationUnitTree;
import com.sun.source.tree.DoWhileLoopTree;
import com.sun.source.tree.ExpressionTree;
import com.sun.source.tree.ForLoopTree;
import com.sun.source.tree.LambdaExpressionTree;
import com.sun.source.tree.LineMap;
import com.sun.source.tree.MemberReferenceTree;
import com.sun.source.tree.MethodInvocationTree;
import com.sun.source.tree.MethodTree;
import com.sun.source.tree.NewArrayTree;
import com.sun.source.tree.NewClassTree;
import com.sun.source.tree.SynchronizedTree;
import com.sun.source.tree.ThrowTree;
import com.sun.source.tree.Tree;
import com.sun.source.tree.TryTree;
import com.sun.source.tree.TypeCastTree;
import com.sun.source.tree.VariableTree;
import com.sun.source.tree.WhileLoopTree;
import com.sun.source.util.JavacTask;
import com.sun.source.util.TreePath;
import com.sun.source.util.TreePathScanner;
import com.sun.source.util.Trees;
import java.io.IOException;
import java.io.StringWriter;
import java.net.URI;
import java.nio.file.Files;
import java.nio.file.Path;
import java.util.ArrayList;
import java.util.List;
import java.util.Map;
import java.util.Set;
import java.util.TreeMap;
import java.util.TreeSet;
import javax.lang.model.element.Element;
import javax.lang.model.element.ElementKind;
import javax.lang.model.element.Modifier;
import javax.lang.model.element.TypeElement;
import javax.lang.model.element.VariableElement;
import javax.lang.model.type.ArrayType;
import javax.lang.model.type.TypeKind;
import javax.lang.model.type.TypeMirror;
import javax.tools.JavaCompiler;
import javax.tools.SimpleJavaFileObject;
import javax.tools.ToolProvider;

/**
 * Those rules of LANGUAGE.md that are seen in the tree that the compiler makes of the class: what it
 * calls, which types it uses, how deep its calls go. Each is then broken on purpose, in a copy, to
 * see that it is noticed.
 */
public final class LanguageTest {
    private static final Path CLASS_TEXT = Path.of("src/main/java/RegisterDesk.java");
    private static final String OWN = "RegisterDesk";
    private static final int MOST_DEEP = 8, MOST_LINES = 60, MOST_PARAMETERS = 7, MOST_CLASSES = 12, MOST_FIELDS = 20;

    private static final Set<String> LIBRARY = Set.of("java.lang.String.length", "java.lang.String.charAt", "java.lang.String.isEmpty",
        "java.lang.String.equals", "java.lang.String.indexOf", "java.lang.String.substring", "java.lang.String.toCharArray",
        "java.lang.Math.max", "java.lang.Math.min", "java.lang.Math.abs", "java.lang.Math.floorDiv", "java.lang.Math.floorMod",
        "java.lang.Integer.bitCount", "java.lang.Long.bitCount", "java.lang.Integer.compare", "java.lang.Long.compare",
        "java.lang.System.arraycopy", "java.util.Arrays.fill", "java.util.Arrays.copyOf", "java.util.Arrays.copyOfRange");

    private static final class Source extends SimpleJavaFileObject {
        private final String text;

        Source(String text) {
            super(URI.create("string:///RegisterDesk.java"), Kind.SOURCE);
            this.text = text;
        }

        @Override
        public CharSequence getCharContent(boolean ignoreErrors) {
            return text;
        }
    }

    /** Looks at each place of the tree, and notes who calls whom. */
    private static final class Look extends TreePathScanner<Void, Void> {
        private final Trees trees;
        private final CompilationUnitTree unit;
        private final Map<String, TreeSet<String>> calls = new TreeMap<>();
        private final TreeSet<String> opened = new TreeSet<>();
        private final List<String> breaches = new ArrayList<>();
        private String method = "";
        private boolean making = true;
        private int classes = 0;

        Look(Trees trees, CompilationUnitTree unit) {
            this.trees = trees;
            this.unit = unit;
        }

        private void breach(int rule, String what) {
            breaches.add("rule " + rule + ": " + what + " in " + method);
        }

        private static boolean isOwn(Element type) {
            return type instanceof TypeElement one
                && (one.getQualifiedName().contentEquals(OWN) || one.getQualifiedName().toString().startsWith(OWN + "."));
        }

        private static boolean isPlain(TypeMirror type) {
            return type.getKind().isPrimitive() || type.getKind() == TypeKind.VOID || type.toString().equals("java.lang.String")
                || type.toString().equals(OWN) || type.toString().startsWith(OWN + ".");
        }

        private static boolean isAllowed(TypeMirror type) {
            if (!(type instanceof ArrayType row)) {
                return isPlain(type);
            }
            TypeMirror inside = row.getComponentType();
            return inside instanceof ArrayType second ? second.getComponentType().getKind().isPrimitive() : isPlain(inside);
        }

        @Override
        public Void visitClass(ClassTree tree, Void none) {
            classes++;
            Tree.Kind around = getCurrentPath().getParentPath().getLeaf().getKind();
            boolean top = around == Tree.Kind.COMPILATION_UNIT;
            if (!top && around != Tree.Kind.CLASS) {
                breach(2, "a local or anonymous class");
            } else if (!top && !tree.getModifiers().getFlags().contains(Modifier.STATIC)) {
                breach(2, tree.getSimpleName() + " is not static");
            }
            long fields = tree.getMembers().stream().filter(one -> one instanceof VariableTree field
                && !field.getModifiers().getFlags().contains(Modifier.STATIC)).count();
            if (fields > MOST_FIELDS) {
                breach(11, fields + " fields");
            }
            return super.visitClass(tree, none);
        }

        @Override
        public Void visitMethod(MethodTree tree, Void none) {
            String before = method;
            boolean madeBefore = making;
            Element element = trees.getElement(getCurrentPath());
            method = nameOf(element);
            making = element.getKind() == ElementKind.CONSTRUCTOR;
            if (isOpened(element)) {
                opened.add(method);
            }
            LineMap lines = unit.getLineMap();
            long first = lines.getLineNumber(trees.getSourcePositions().getStartPosition(unit, tree));
            long last = lines.getLineNumber(trees.getSourcePositions().getEndPosition(unit, tree));
            if (last - first >= MOST_LINES) {
                breach(11, "more than " + MOST_LINES + " lines");
            }
            if (tree.getParameters().size() > MOST_PARAMETERS) {
                breach(11, "more than " + MOST_PARAMETERS + " parameters");
            }
            super.visitMethod(tree, none);
            method = before;
            making = madeBefore;
            return null;
        }

        private static boolean isOpened(Element element) {
            return element.getEnclosingElement().getSimpleName().contentEquals(OWN) && element.getModifiers().contains(Modifier.PUBLIC);
        }

        private static String nameOf(Element element) {
            return element.getEnclosingElement() + "." + element.getSimpleName();
        }

        @Override
        public Void visitVariable(VariableTree tree, Void none) {
            Element element = trees.getElement(getCurrentPath());
            if (!isAllowed(element.asType())) {
                breach(3, "a variable of " + element.asType());
            }
            boolean field = element.getKind() == ElementKind.FIELD;
            if (field && element.getModifiers().contains(Modifier.STATIC) && !isConstant(element)) {
                breach(5, "the static " + element + " is no constant");
            }
            return super.visitVariable(tree, none);
        }

        private static boolean isConstant(Element element) {
            return element.getModifiers().contains(Modifier.FINAL) && element instanceof VariableElement one && one.getConstantValue() != null;
        }

        @Override
        public Void visitMethodInvocation(MethodInvocationTree tree, Void none) {
            Element called = trees.getElement(getCurrentPath());
            boolean toSuper = called.getKind() == ElementKind.CONSTRUCTOR;
            String name = nameOf(called);
            if (!isOwn(called.getEnclosingElement()) && !toSuper && !LIBRARY.contains(name)) {
                breach(4, "a call of " + name);
            }
            if (!toSuper) {
                calls.computeIfAbsent(method, key -> new TreeSet<>()).add(name);
            }
            return super.visitMethodInvocation(tree, none);
        }

        @Override
        public Void visitNewClass(NewClassTree tree, Void none) {
            TypeMirror type = trees.getTypeMirror(new TreePath(getCurrentPath(), tree.getIdentifier()));
            if (!type.toString().startsWith(OWN)) {
                breach(4, "a new " + type);
            }
            made("object");
            return super.visitNewClass(tree, none);
        }

        @Override
        public Void visitNewArray(NewArrayTree tree, Void none) {
            made("array");
            return super.visitNewArray(tree, none);
        }

        // The rule lets a call make objects; README.md says that none does.
        private void made(String what) {
            if (!making) {
                breach(12, "an " + what + " is made outside a constructor");
            }
        }

        @Override
        public Void visitThrow(ThrowTree tree, Void none) {
            breach(6, "throw");
            return super.visitThrow(tree, none);
        }

        @Override
        public Void visitTry(TryTree tree, Void none) {
            breach(6, "try");
            return super.visitTry(tree, none);
        }

        @Override
        public Void visitSynchronized(SynchronizedTree tree, Void none) {
            breach(6, "synchronized");
            return super.visitSynchronized(tree, none);
        }

        @Override
        public Void visitAssert(AssertTree tree, Void none) {
            breach(6, "assert");
            return super.visitAssert(tree, none);
        }

        @Override
        public Void visitLambdaExpression(LambdaExpressionTree tree, Void none) {
            breach(2, "a lambda");
            return super.visitLambdaExpression(tree, none);
        }

        @Override
        public Void visitMemberReference(MemberReferenceTree tree, Void none) {
            breach(2, "a method reference");
            return super.visitMemberReference(tree, none);
        }

        @Override
        public Void visitForLoop(ForLoopTree tree, Void none) {
            if (tree.getCondition() == null) {
                breach(9, "a for without an end");
            }
            return super.visitForLoop(tree, none);
        }

        @Override
        public Void visitWhileLoop(WhileLoopTree tree, Void none) {
            endless(tree.getCondition());
            return super.visitWhileLoop(tree, none);
        }

        @Override
        public Void visitDoWhileLoop(DoWhileLoopTree tree, Void none) {
            endless(tree.getCondition());
            return super.visitDoWhileLoop(tree, none);
        }

        private void endless(ExpressionTree condition) {
            if (condition.toString().equals("(true)")) {
                breach(9, "a while without an end");
            }
        }

        @Override
        public Void visitTypeCast(TypeCastTree tree, Void none) {
            TypeMirror type = trees.getTypeMirror(getCurrentPath());
            if (!type.getKind().isPrimitive()) {
                breach(7, "a cast to " + type);
            }
            return super.visitTypeCast(tree, none);
        }

        @Override
        public Void visitBinary(BinaryTree tree, Void none) {
            TypeMirror left = trees.getTypeMirror(new TreePath(getCurrentPath(), tree.getLeftOperand()));
            if (left.toString().equals("java.lang.String")) {
                breach(tree.getKind() == Tree.Kind.PLUS ? 10 : 6, "texts beside " + tree.getKind());
            }
            return super.visitBinary(tree, none);
        }

        /** How many calls stand open at once, this one among them; a call back to one of them is told. */
        int depth(String name, List<String> open) {
            if (open.contains(name)) {
                breaches.add("rule 8: " + name + " is called again by way of " + open);
                return 0;
            }
            List<String> nowOpen = new ArrayList<>(open);
            nowOpen.add(name);
            int deepest = 0;
            for (String called : calls.getOrDefault(name, new TreeSet<>())) {
                deepest = Math.max(deepest, depth(called, nowOpen));
            }
            return deepest + 1;
        }

        void lookAtWhole() {
            method = OWN;
            if (classes > MOST_CLASSES) {
                breach(11, classes + " classes");
            }
            for (String name : opened) {
                int depth = depth(name, List.of());
                if (depth > MOST_DEEP) {
                    breaches.add("rule 11: calls from " + name + " go " + depth + " deep");
                }
            }
        }
    }

    private static List<String> breaches(JavaCompiler compiler, String text) throws IOException {
        StringWriter said = new StringWriter();
        JavacTask task = (JavacTask) compiler.getTask(said, null, null, List.of("-proc:none"), null, List.of(new Source(text)));
        CompilationUnitTree unit = task.parse().iterator().next();
        task.analyze();
        if (!said.toString().isEmpty()) {
            return List.of("not compiled: " + said);
        }
        Look look = new Look(Trees.instance(task), unit);
        look.scan(unit, null);
        look.lookAtWhole();
        return look.breaches;
    }

    /** A rule, and lines that break it, put at the head of a private method or ahead of it. */
    private record Break(int rule, boolean inside, String lines) {
        String in(String text) {
            String head = "    private void forgetProgram() {\n";
            int at = text.indexOf(head);
            if (at < 0) {
                return text;
            }
            int place = inside ? at + head.length() : at;
            return text.substring(0, place) + lines + "\n" + text.substring(place);
        }
    }

    private static final List<Break> BREAKS = List.of(
        new Break(2, false, "private final class Extra { }"),
        new Break(2, true, "class Extra { }"),
        new Break(2, true, "Runnable extra = () -> { };"),
        new Break(2, true, "Runnable extra = this::wipe;"),
        new Break(3, true, "Integer extra = 1;"),
        new Break(3, true, "int[][][] extra = null;"),
        new Break(3, true, "Object extra = null;"),
        new Break(4, true, "int extra = Math.addExact(1, 2);"),
        new Break(4, true, "System.out.println();"),
        new Break(4, true, "int extra = Float.floatToIntBits(1f);"),
        new Break(4, true, "long extra = System.nanoTime();"),
        new Break(5, false, "private static int extra = 1;"),
        new Break(6, true, "if (allotted) { throw new IllegalStateException(); }"),
        new Break(6, true, "try { allotted = false; } finally { codeRan = false; }"),
        new Break(6, true, "synchronized (this) { allotted = false; }"),
        new Break(6, true, "assert allotted;"),
        new Break(6, true, "boolean extra = SHAPES == OPENINGS;"),
        new Break(7, true, "int[] extra = (int[]) images[0].program.parts;"),
        new Break(8, false, "private void again(int depth) { if (depth > 0) { again(depth - 1); } }"),
        new Break(9, true, "for (;;) { if (allotted) { break; } }"),
        new Break(9, true, "while (true) { if (allotted) { break; } }"),
        new Break(10, true, "int extra = (SHAPES + allotted).length();"),
        new Break(11, true, "\n".repeat(60)),
        new Break(11, false, "private static void extra(int a, int b, int c, int d, int e, int f, int g, int h) { }"),
        new Break(11, false, "private int " + "extra, ".repeat(20).replaceAll("extra", "extra_") + "extra;"),
        new Break(12, true, "int[] extra = new int[3];"),
        new Break(12, true, "Image extra = new Image();"));

    private static String numbered(String lines) {
        String numbered = lines;
        for (int i = 0; numbered.contains("extra_,"); i++) {
            numbered = numbered.replaceFirst("extra_,", "extra" + i + ",");
        }
        return numbered;
    }

    public static void main(String[] args) throws IOException {
        JavaCompiler compiler = ToolProvider.getSystemJavaCompiler();
        if (compiler == null) {
            System.out.println("this java has no compiler: no rule is looked at");
            return;
        }
        String text = Files.readString(CLASS_TEXT);
        List<String> wrong = new ArrayList<>(breaches(compiler, text));
        for (Break one : BREAKS) {
            // What nobody calls is not gone into, so recursion is looked at from a public method.
            String broken = new Break(one.rule, one.inside, numbered(one.lines)).in(text)
                .replace("int before = pad.count;", one.rule == 8 ? "int before = pad.count; again(3);" : "int before = pad.count;");
            List<String> seen = breaches(compiler, broken);
            if (seen.stream().noneMatch(breach -> breach.startsWith("rule " + one.rule + ":"))) {
                wrong.add("not noticed: " + one + ", but " + seen);
            }
        }
        wrong.forEach(System.out::println);
        System.out.println(BREAKS.size() + " breaks of rules were tried, " + wrong.size() + " faults");
        if (!wrong.isEmpty()) {
            System.exit(1);
        }
    }
}
