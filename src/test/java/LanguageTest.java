import com.sun.source.tree.AssertTree;
import com.sun.source.tree.BinaryTree;
import com.sun.source.tree.ClassTree;
import com.sun.source.tree.CompilationUnitTree;
import com.sun.source.tree.ImportTree;
import com.sun.source.tree.LambdaExpressionTree;
import com.sun.source.tree.MemberReferenceTree;
import com.sun.source.tree.MethodInvocationTree;
import com.sun.source.tree.MethodTree;
import com.sun.source.tree.NewArrayTree;
import com.sun.source.tree.NewClassTree;
import com.sun.source.tree.SynchronizedTree;
import com.sun.source.tree.Tree;
import com.sun.source.tree.TryTree;
import com.sun.source.tree.VariableTree;
import com.sun.source.util.JavacTask;
import com.sun.source.util.TreePath;
import com.sun.source.util.TreePathScanner;
import com.sun.source.util.Trees;
import java.io.File;
import java.io.IOException;
import java.util.ArrayDeque;
import java.util.Deque;
import java.util.List;
import java.util.Map;
import java.util.Set;
import java.util.TreeMap;
import java.util.TreeSet;
import javax.lang.model.element.Element;
import javax.lang.model.element.ElementKind;
import javax.lang.model.element.ExecutableElement;
import javax.lang.model.element.Modifier;
import javax.lang.model.element.VariableElement;
import javax.lang.model.type.TypeMirror;
import javax.tools.JavaCompiler;
import javax.tools.StandardJavaFileManager;
import javax.tools.ToolProvider;

/** What the source shows of the rules of LANGUAGE.md; the class uses less than they leave, and this holds it to that. */
public final class LanguageTest {
    private static final Runs RUNS = new Runs("LanguageTest");
    private static final File SOURCE = new File("src/main/java/RoverMinutes.java");

    private static final Set<String> LIBRARY = Set.of("java.lang.Math.max(int,int)", "java.lang.Math.min(int,int)",
        "java.lang.Math.floorMod(int,int)", "java.lang.String.indexOf(int)");
    private static final Set<String> THROWN = Set.of("java.lang.IllegalStateException",
        "java.lang.IllegalArgumentException", "java.lang.IndexOutOfBoundsException");
    private static final Set<String> TYPES = Set.of("int", "char", "boolean", "void", "java.lang.String");

    private static final int MOST_CLASSES = 12;
    private static final int MOST_FIELDS = 20;
    private static final int MOST_PARAMETERS = 7;
    private static final int MOST_LINES = 60;
    private static final int MOST_DEEP = 8;

    public static void main(String[] args) throws IOException {
        JavaCompiler compiler = ToolProvider.getSystemJavaCompiler();
        try (StandardJavaFileManager files = compiler.getStandardFileManager(null, null, null)) {
            JavacTask task = (JavacTask) compiler.getTask(null, files, null, List.of("-proc:none"), null,
                files.getJavaFileObjects(SOURCE));
            CompilationUnitTree unit = task.parse().iterator().next();
            task.analyze();
            Reader reader = new Reader(unit, Trees.instance(task));
            reader.scan(unit, null);
            reader.lookAtWhole();
        }
        RUNS.end();
    }

    private static final class Reader extends TreePathScanner<Void, Void> {
        private final CompilationUnitTree unit;
        private final Trees trees;
        private final Deque<ExecutableElement> open = new ArrayDeque<>();
        private final Map<String, Set<String>> calls = new TreeMap<>();
        private final Set<String> publicNames = new TreeSet<>();
        private final Set<String> privateNames = new TreeSet<>();
        private int classes;

        Reader(CompilationUnitTree unit, Trees trees) {
            this.unit = unit;
            this.trees = trees;
        }

        void lookAtWhole() {
            RUNS.due("rule 1: a package", unit.getPackage(), null);
            Set<String> both = new TreeSet<>(privateNames);
            both.retainAll(publicNames);
            RUNS.due("rule 1: private methods with names of public ones", both, "[]");
            RUNS.due("rule 11: " + classes + " classes are few enough", classes <= MOST_CLASSES, true);
            for (String method : calls.keySet()) {
                int deep = deep(method, 1);
                RUNS.due("rules 8 and 11: " + method + " calls no more than eight deep", deep <= MOST_DEEP, true);
            }
        }

        /** Stops above the bound, so that a ring of calls is seen as too deep. */
        private int deep(String method, int above) {
            int most = above;
            if (above <= MOST_DEEP) {
                for (String called : calls.getOrDefault(method, Set.of())) {
                    most = Math.max(most, deep(called, above + 1));
                }
            }
            return most;
        }

        private Element element(Tree tree) {
            return trees.getElement(new TreePath(getCurrentPath(), tree));
        }

        private String here(Tree tree) {
            return " in line " + unit.getLineMap().getLineNumber(start(tree));
        }

        private long start(Tree tree) {
            return trees.getSourcePositions().getStartPosition(unit, tree);
        }

        private static String nameOf(Element method) {
            return method.getEnclosingElement() + "." + method;
        }

        private static boolean isOwn(Element element) {
            return isOwn(element.toString()) || isOwn(element.getEnclosingElement().toString());
        }

        private static boolean isOwn(String name) {
            return name.equals("RoverMinutes") || name.startsWith("RoverMinutes.");
        }

        private void none(int rule, String what, Tree tree) {
            RUNS.due("rule " + rule + ": " + what + here(tree), "is there", "is not");
        }

        private void lookAtType(TypeMirror type, Tree tree) {
            String plain = type.toString();
            if (plain.endsWith("[]")) {
                plain = plain.substring(0, plain.length() - 2);
            }
            RUNS.due("rule 3: the type " + type + here(tree) + " is allowed", TYPES.contains(plain) || isOwn(plain), true);
        }

        @Override
        public Void visitClass(ClassTree tree, Void nothing) {
            classes++;
            Element element = trees.getElement(getCurrentPath());
            boolean isOuter = element.toString().equals("RoverMinutes");
            boolean isRight = isOuter ? element.getModifiers().equals(Set.of(Modifier.PUBLIC, Modifier.FINAL))
                : element.getModifiers().contains(Modifier.STATIC) && element.getModifiers().contains(Modifier.PRIVATE)
                    && element.getEnclosingElement().toString().equals("RoverMinutes");
            RUNS.due("rules 1 and 2: the modifiers and the place of " + element, isRight, true);
            int fields = 0;
            for (Element inside : element.getEnclosedElements()) {
                if (inside.getKind() == ElementKind.FIELD && !inside.getModifiers().contains(Modifier.STATIC)) {
                    fields++;
                }
            }
            RUNS.due("rule 11: " + element + " has few fields", fields <= MOST_FIELDS, true);
            return super.visitClass(tree, nothing);
        }

        @Override
        public Void visitMethod(MethodTree tree, Void nothing) {
            ExecutableElement method = (ExecutableElement) trees.getElement(getCurrentPath());
            Set<Modifier> modifiers = method.getModifiers();
            String name = method.getSimpleName().toString();
            if (method.getKind() == ElementKind.METHOD && modifiers.contains(Modifier.PUBLIC)) {
                publicNames.add(name);
            } else if (method.getKind() == ElementKind.METHOD && modifiers.contains(Modifier.PRIVATE)) {
                privateNames.add(name);
            }
            RUNS.due("rule 6: " + name + " of a plain object", Set.of("equals", "hashCode", "toString").contains(name), false);
            RUNS.due("rule 11: the parameters of " + name, method.getParameters().size() <= MOST_PARAMETERS, true);
            long end = trees.getSourcePositions().getEndPosition(unit, tree);
            if (end > start(tree)) {
                long lines = unit.getLineMap().getLineNumber(end) - unit.getLineMap().getLineNumber(start(tree)) + 1;
                RUNS.due("rule 11: " + name + " has at most " + MOST_LINES + " lines", lines <= MOST_LINES, true);
            }
            lookAtType(method.getReturnType(), tree);
            calls.putIfAbsent(nameOf(method), new TreeSet<>());
            open.push(method);
            super.visitMethod(tree, nothing);
            open.pop();
            return null;
        }

        @Override
        public Void visitVariable(VariableTree tree, Void nothing) {
            VariableElement variable = (VariableElement) trees.getElement(getCurrentPath());
            lookAtType(variable.asType(), tree);
            if (variable.getModifiers().contains(Modifier.STATIC)) {
                RUNS.due("rule 5: a static field is a constant" + here(tree), variable.getConstantValue() != null, true);
            }
            return super.visitVariable(tree, nothing);
        }

        @Override
        public Void visitMethodInvocation(MethodInvocationTree tree, Void nothing) {
            Element method = element(tree.getMethodSelect());
            if (method.getKind() != ElementKind.CONSTRUCTOR) {
                note(method, tree);
                RUNS.due("rule 4: " + nameOf(method) + here(tree) + " is allowed",
                    isOwn(method) || LIBRARY.contains(nameOf(method)), true);
            }
            return super.visitMethodInvocation(tree, nothing);
        }

        @Override
        public Void visitNewClass(NewClassTree tree, Void nothing) {
            Element constructor = trees.getElement(getCurrentPath());
            boolean isThrown = getCurrentPath().getParentPath().getLeaf().getKind() == Tree.Kind.THROW;
            String name = constructor.getEnclosingElement().toString();
            note(constructor, tree);
            if (isThrown) {
                RUNS.due("rule 6: " + name + here(tree) + " is allowed", THROWN.contains(name), true);
                RUNS.due("rule 6: no throw in a constructor" + here(tree), isInConstructor(), false);
            } else {
                RUNS.due("rule 4: " + name + here(tree) + " is allowed", isOwn(name), true);
                RUNS.due("rule 12: an object is made in a constructor" + here(tree), isInConstructor(), true);
            }
            return super.visitNewClass(tree, nothing);
        }

        @Override
        public Void visitNewArray(NewArrayTree tree, Void nothing) {
            RUNS.due("rule 12: an array is made in a constructor" + here(tree), isInConstructor(), true);
            return super.visitNewArray(tree, nothing);
        }

        private boolean isInConstructor() {
            return !open.isEmpty() && open.peek().getKind() == ElementKind.CONSTRUCTOR;
        }

        private void note(Element called, Tree tree) {
            RUNS.due("rule 5: no call outside a method" + here(tree), open.isEmpty(), false);
            if (!open.isEmpty()) {
                calls.get(nameOf(open.peek())).add(nameOf(called));
            }
        }

        @Override
        public Void visitBinary(BinaryTree tree, Void nothing) {
            String type = trees.getTypeMirror(getCurrentPath()).toString();
            RUNS.due("rules 3 and 10: the sum" + here(tree) + " is a number or a truth",
                type.equals("int") || type.equals("boolean"), true);
            return super.visitBinary(tree, nothing);
        }

        @Override
        public Void visitImport(ImportTree tree, Void nothing) {
            none(4, "an import", tree);
            return super.visitImport(tree, nothing);
        }

        @Override
        public Void visitLambdaExpression(LambdaExpressionTree tree, Void nothing) {
            none(2, "a lambda", tree);
            return super.visitLambdaExpression(tree, nothing);
        }

        @Override
        public Void visitMemberReference(MemberReferenceTree tree, Void nothing) {
            none(2, "a method reference", tree);
            return super.visitMemberReference(tree, nothing);
        }

        @Override
        public Void visitTry(TryTree tree, Void nothing) {
            none(6, "a try", tree);
            return super.visitTry(tree, nothing);
        }

        @Override
        public Void visitSynchronized(SynchronizedTree tree, Void nothing) {
            none(6, "synchronized", tree);
            return super.visitSynchronized(tree, nothing);
        }

        @Override
        public Void visitAssert(AssertTree tree, Void nothing) {
            none(6, "an assert", tree);
            return super.visitAssert(tree, nothing);
        }
    }
}
