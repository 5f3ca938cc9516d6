import com.sun.source.tree.BinaryTree;
import com.sun.source.tree.BlockTree;
import com.sun.source.tree.ClassTree;
import com.sun.source.tree.CompilationUnitTree;
import com.sun.source.tree.CompoundAssignmentTree;
import com.sun.source.tree.IdentifierTree;
import com.sun.source.tree.LambdaExpressionTree;
import com.sun.source.tree.MemberReferenceTree;
import com.sun.source.tree.MemberSelectTree;
import com.sun.source.tree.MethodInvocationTree;
import com.sun.source.tree.MethodTree;
import com.sun.source.tree.NewArrayTree;
import com.sun.source.tree.NewClassTree;
import com.sun.source.tree.ThrowTree;
import com.sun.source.tree.Tree;
import com.sun.source.tree.TryTree;
import com.sun.source.tree.TypeCastTree;
import com.sun.source.tree.VariableTree;
import com.sun.source.util.JavacTask;
import com.sun.source.util.SourcePositions;
import com.sun.source.util.TreePathScanner;
import com.sun.source.util.Trees;
import java.io.IOException;
import java.nio.file.Path;
import java.util.HashMap;
import java.util.HashSet;
import java.util.Map;
import java.util.Set;
import java.util.TreeMap;
import java.util.TreeSet;
import javax.lang.model.element.Element;
import javax.lang.model.element.ElementKind;
import javax.lang.model.element.Modifier;
import javax.lang.model.element.TypeElement;
import javax.lang.model.type.TypeKind;
import javax.lang.model.type.TypeMirror;
import javax.tools.JavaCompiler;
import javax.tools.StandardJavaFileManager;
import javax.tools.ToolProvider;

/** Rules 2 to 12 of ../shared/LANGUAGE.md, read off the program's tree as javac makes it. */
public final class RulesTest {
    private static final Path PROGRAM = Path.of("src/main/java/LearnHall.java");

    /** What the program takes of the library; rule 4 has more, which is added here when it is taken. */
    private static final Set<String> LIBRARY = Set.of("System.arraycopy", "Arrays.copyOf", "Arrays.copyOfRange",
            "Arrays.fill", "Math.max", "Math.min", "Math.abs", "Integer.bitCount");

    private static final Set<String> EXCEPTIONS = Set.of("IllegalStateException", "IllegalArgumentException",
            "IndexOutOfBoundsException", "ArithmeticException", "UnsupportedOperationException",
            "NoSuchElementException", "RuntimeException");

    private static final int LONGEST = 60;
    private static final int DEEPEST = 8;
    private static final int MOST_CLASSES = 12;
    private static final int MOST_FIELDS = 20;
    private static final int MOST_PARAMETERS = 7;

    public static void main(String[] args) throws IOException {
        JavaCompiler compiler = ToolProvider.getSystemJavaCompiler();
        try (StandardJavaFileManager files = compiler.getStandardFileManager(null, null, null)) {
            JavacTask task = (JavacTask) compiler.getTask(null, files, null, null, null,
                    files.getJavaFileObjects(PROGRAM));
            CompilationUnitTree unit = task.parse().iterator().next();
            task.analyze();
            Reader reader = new Reader(Trees.instance(task), unit);
            reader.scan(unit, null);
            reader.tellWholes();
        }
        Due.end();
    }

    private static final class Reader extends TreePathScanner<Void, Void> {
        private final Trees trees;
        private final CompilationUnitTree unit;
        private final SourcePositions positions;
        /** Which methods a method calls, the library's left out. */
        private final Map<String, Set<String>> calls = new TreeMap<>();
        private final Map<String, Integer> depths = new HashMap<>();
        private final Set<String> open = new HashSet<>();
        private String method = "";
        private boolean isConstructor;
        private int classes;

        Reader(Trees trees, CompilationUnitTree unit) {
            this.trees = trees;
            this.unit = unit;
            positions = trees.getSourcePositions();
        }

        private void fault(String rule, Tree tree) {
            long line = unit.getLineMap().getLineNumber(positions.getStartPosition(unit, tree));
            Due.is("rule " + rule + " in line " + line, "kept", "broken");
        }

        private int lines(Tree tree) {
            long first = unit.getLineMap().getLineNumber(positions.getStartPosition(unit, tree));
            long last = unit.getLineMap().getLineNumber(positions.getEndPosition(unit, tree));
            return (int) (last - first + 1);
        }

        private Element here() {
            return trees.getElement(getCurrentPath());
        }

        /** The name of a method: that of its class, and its own with the types of its parameters. */
        private static String nameOf(Element element) {
            return element.getEnclosingElement().getSimpleName() + "." + element;
        }

        private static boolean isOwn(Element element) {
            Element at = element;
            while (at != null && at.getKind() != ElementKind.PACKAGE) {
                if (at.getSimpleName().contentEquals("LearnHall")) {
                    return true;
                }
                at = at.getEnclosingElement();
            }
            return false;
        }

        @Override
        public Void visitClass(ClassTree tree, Void none) {
            classes++;
            int fields = 0;
            for (Tree member : tree.getMembers()) {
                if (member instanceof BlockTree) {
                    fault("5: no initialiser block", member);
                }
                boolean isField = member instanceof VariableTree
                        && !((VariableTree) member).getModifiers().getFlags().contains(Modifier.STATIC);
                fields += isField ? 1 : 0;
            }
            if (fields > MOST_FIELDS) {
                fault("11: twenty fields", tree);
            }
            return super.visitClass(tree, none);
        }

        @Override
        public Void visitMethod(MethodTree tree, Void none) {
            String before = method;
            method = nameOf(here());
            isConstructor = here().getKind() == ElementKind.CONSTRUCTOR;
            calls.computeIfAbsent(method, name -> new TreeSet<>());
            if (lines(tree) > LONGEST) {
                fault("11: sixty lines", tree);
            }
            if (tree.getParameters().size() > MOST_PARAMETERS) {
                fault("11: seven parameters", tree);
            }
            super.visitMethod(tree, none);
            method = before;
            isConstructor = false;
            return null;
        }

        @Override
        public Void visitVariable(VariableTree tree, Void none) {
            Element variable = here();
            if (!isAllowed(variable.asType(), 0)) {
                fault("3: a type, " + variable.asType(), tree);
            }
            Set<Modifier> flags = variable.getModifiers();
            if (flags.contains(Modifier.STATIC) && (!flags.contains(Modifier.FINAL) || tree.getInitializer() == null)) {
                fault("5: static fields are final", tree);
            }
            return super.visitVariable(tree, none);
        }

        private boolean isAllowed(TypeMirror type, int dimensions) {
            if (type.getKind() == TypeKind.ARRAY) {
                return isAllowed(((javax.lang.model.type.ArrayType) type).getComponentType(), dimensions + 1);
            }
            if (type.getKind().isPrimitive()) {
                return dimensions <= (type.getKind() == TypeKind.BOOLEAN ? 1 : 2);
            }
            Element element = type.getKind() == TypeKind.DECLARED
                    ? ((javax.lang.model.type.DeclaredType) type).asElement() : null;
            return element instanceof TypeElement && isOwn(element) && dimensions <= 1;
        }

        @Override
        public Void visitMethodInvocation(MethodInvocationTree tree, Void none) {
            Element called = here();
            String name = called.getEnclosingElement().getSimpleName() + "." + called.getSimpleName();
            if (isOwn(called)) {
                calls.get(method).add(nameOf(called));
            } else if (!called.getSimpleName().contentEquals("<init>") && !LIBRARY.contains(name)) {
                fault("4: the library, " + name, tree);
            }
            return super.visitMethodInvocation(tree, none);
        }

        @Override
        public Void visitNewClass(NewClassTree tree, Void none) {
            Element made = here();
            if (isOwn(made)) {
                calls.computeIfAbsent(method, name -> new TreeSet<>()).add(nameOf(made));
            } else if (!EXCEPTIONS.contains(made.getEnclosingElement().getSimpleName().toString())) {
                fault("4: the library's objects", tree);
            }
            if (tree.getClassBody() != null) {
                fault("2: no class without a name", tree);
            }
            return super.visitNewClass(tree, none);
        }

        @Override
        public Void visitThrow(ThrowTree tree, Void none) {
            if (isConstructor || !(tree.getExpression() instanceof NewClassTree)) {
                fault("6: throw new, and not in a constructor", tree);
            }
            return super.visitThrow(tree, none);
        }

        @Override
        public Void visitTry(TryTree tree, Void none) {
            fault("6: nothing is caught", tree);
            return null;
        }

        @Override
        public Void visitLambdaExpression(LambdaExpressionTree tree, Void none) {
            fault("2: no lambda", tree);
            return null;
        }

        @Override
        public Void visitMemberReference(MemberReferenceTree tree, Void none) {
            fault("2: no method reference", tree);
            return null;
        }

        @Override
        public Void visitTypeCast(TypeCastTree tree, Void none) {
            if (!trees.getTypeMirror(getCurrentPath()).getKind().isPrimitive()) {
                fault("7: casts of numbers alone", tree);
            }
            return super.visitTypeCast(tree, none);
        }

        /** A divisor is a constant above 0, or one of the two numbers that a method has looked at before. */
        @Override
        public Void visitBinary(BinaryTree tree, Void none) {
            if (tree.getKind() == Tree.Kind.DIVIDE || tree.getKind() == Tree.Kind.REMAINDER) {
                String divisor = tree.getRightOperand().toString();
                if (!divisor.matches("[1-9]\\d*|MAX_[A-Z]+|CELLS|\\(float\\)all|\\(double\\)learnerCount")) {
                    fault("7: a divisor, " + divisor, tree);
                }
            }
            if (!trees.getTypeMirror(getCurrentPath()).getKind().isPrimitive()) {
                fault("10: texts are not joined by +", tree);
            }
            return super.visitBinary(tree, none);
        }

        @Override
        public Void visitCompoundAssignment(CompoundAssignmentTree tree, Void none) {
            Tree.Kind kind = tree.getKind();
            if (kind == Tree.Kind.DIVIDE_ASSIGNMENT || kind == Tree.Kind.REMAINDER_ASSIGNMENT) {
                fault("7: a divisor", tree);
            }
            return super.visitCompoundAssignment(tree, none);
        }

        /** A new array is as long as a constant says, or as a length that was looked at. */
        @Override
        public Void visitNewArray(NewArrayTree tree, Void none) {
            for (Tree dimension : tree.getDimensions()) {
                if (!dimension.toString().matches("0|[A-Z_0-9 *+()]+")) {
                    fault("7: the length of an array, " + dimension, tree);
                }
            }
            return super.visitNewArray(tree, none);
        }

        @Override
        public Void visitMemberSelect(MemberSelectTree tree, Void none) {
            notAsked(tree.getIdentifier().toString(), tree);
            return super.visitMemberSelect(tree, none);
        }

        @Override
        public Void visitIdentifier(IdentifierTree tree, Void none) {
            notAsked(tree.getName().toString(), tree);
            return super.visitIdentifier(tree, none);
        }

        private void notAsked(String name, Tree tree) {
            if (Set.of("getClass", "hashCode", "equals", "toString", "currentTimeMillis", "nanoTime").contains(name)) {
                fault("6 or 13: " + name, tree);
            }
        }

        /** What only the whole file tells: how many classes, and how deep calls go. */
        void tellWholes() {
            Due.is("rule 11: twelve classes, there are " + classes, true, classes <= MOST_CLASSES);
            for (String name : calls.keySet()) {
                int depth = depthOf(name);
                Due.is("rule 11: calls go " + depth + " deep from " + name, true, depth <= DEEPEST);
            }
        }

        /** How many calls stand open at once from a method on, itself among them. */
        private int depthOf(String name) {
            Integer known = depths.get(name);
            if (known != null) {
                return known;
            }
            if (!open.add(name)) {
                Due.is("rule 8: no recursion", "", name);
                return 0;
            }
            int deepest = 0;
            for (String next : calls.getOrDefault(name, Set.of())) {
                deepest = Math.max(deepest, depthOf(next));
            }
            open.remove(name);
            depths.put(name, deepest + 1);
            return deepest + 1;
        }
    }
}
