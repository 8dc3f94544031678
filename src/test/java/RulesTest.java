import com.sun.source.tree.AssertTree;
import com.sun.source.tree.AssignmentTree;
import com.sun.source.tree.BinaryTree;
import com.sun.source.tree.ClassTree;
import com.sun.source.tree.CompilationUnitTree;
import com.sun.source.tree.CompoundAssignmentTree;
import com.sun.source.tree.DoWhileLoopTree;
import com.sun.source.tree.EnhancedForLoopTree;
import com.sun.source.tree.ExpressionTree;
import com.sun.source.tree.ForLoopTree;
import com.sun.source.tree.IdentifierTree;
import com.sun.source.tree.InstanceOfTree;
import com.sun.source.tree.LambdaExpressionTree;
import com.sun.source.tree.MemberReferenceTree;
import com.sun.source.tree.MemberSelectTree;
import com.sun.source.tree.MethodInvocationTree;
import com.sun.source.tree.MethodTree;
import com.sun.source.tree.NewArrayTree;
import com.sun.source.tree.NewClassTree;
import com.sun.source.tree.SynchronizedTree;
import com.sun.source.tree.ThrowTree;
import com.sun.source.tree.Tree;
import com.sun.source.tree.TryTree;
import com.sun.source.tree.TypeCastTree;
import com.sun.source.tree.UnaryTree;
import com.sun.source.tree.VariableTree;
import com.sun.source.tree.WhileLoopTree;
import com.sun.source.util.JavacTask;
import com.sun.source.util.TreePath;
import com.sun.source.util.TreePathScanner;
import com.sun.source.util.TreeScanner;
import com.sun.source.util.Trees;
import java.io.IOException;
import java.nio.charset.StandardCharsets;
import java.nio.file.Path;
import java.util.ArrayDeque;
import java.util.Deque;
import java.util.HashMap;
import java.util.HashSet;
import java.util.List;
import java.util.Map;
import java.util.Set;
import java.util.TreeSet;
import javax.lang.model.element.Element;
import javax.lang.model.element.ElementKind;
import javax.lang.model.element.ExecutableElement;
import javax.lang.model.element.Modifier;
import javax.lang.model.element.VariableElement;
import javax.lang.model.type.TypeKind;
import javax.tools.JavaCompiler;
import javax.tools.StandardJavaFileManager;
import javax.tools.ToolProvider;

/** What of LANGUAGE.md can be seen in the compiler's own trees of the class: told with the number of the rule. */
public final class RulesTest {
    private static final Set<String> LIBRARY = Set.of("Math.max", "Math.min", "Integer.bitCount", "System.arraycopy",
            "Arrays.fill", "Arrays.copyOf");
    private static final Set<String> EXCEPTIONS = Set.of("IndexOutOfBoundsException", "NoSuchElementException");
    private static final Set<String> TYPES = Set.of("int", "long", "short", "byte", "char", "boolean", "int[]", "long[]",
            "byte[]", "boolean[]", "void", "String");
    private static final int CALLS_DEEP = 8;

    private static int looked = 0;
    private static int wrong = 0;

    private static void holds(int rule, String what, boolean holds) {
        looked++;
        if (!holds) {
            wrong++;
            System.out.println("rule " + rule + " is broken: " + what);
        }
    }

    // ---- which methods call which

    private static final Map<String, Set<String>> CALLS = new HashMap<>();
    private static final Map<String, Integer> DEEP = new HashMap<>();

    /** How many calls stand open at once from this one on; what calls itself is told. */
    private static int deep(String method, Deque<String> open) {
        if (open.contains(method)) {
            holds(8, method + " calls itself through " + open, false);
            return 0;
        }
        Integer known = DEEP.get(method);
        if (known != null) {
            return known;
        }
        open.push(method);
        int most = 0;
        for (String other : CALLS.getOrDefault(method, Set.of())) {
            most = Math.max(most, deep(other, open));
        }
        open.pop();
        DEEP.put(method, most + 1);
        return most + 1;
    }

    // ---- loops

    /** Names that stand on either side of a comparison. */
    private static Set<String> compared(Tree condition) {
        Set<String> names = new HashSet<>();
        new TreeScanner<Void, Void>() {
            @Override
            public Void visitBinary(BinaryTree t, Void v) {
                switch (t.getKind()) {
                    case LESS_THAN: case LESS_THAN_EQUAL: case GREATER_THAN: case GREATER_THAN_EQUAL:
                        names(t.getLeftOperand(), names);
                        names(t.getRightOperand(), names);
                        break;
                    default:
                        super.visitBinary(t, v);
                }
                return null;
            }
        }.scan(condition, null);
        return names;
    }

    private static void names(Tree tree, Set<String> to) {
        new TreeScanner<Void, Void>() {
            @Override
            public Void visitIdentifier(IdentifierTree t, Void v) {
                to.add(t.getName().toString());
                return null;
            }
        }.scan(tree, null);
    }

    /** Names that a step of one kind changes: ++, --, += and their like, x = x + y. */
    private static Set<String> counted(Iterable<? extends Tree> trees) {
        Set<String> names = new HashSet<>();
        TreeScanner<Void, Void> scanner = new TreeScanner<>() {
            @Override
            public Void visitUnary(UnaryTree t, Void v) {
                if (t.getKind().toString().contains("CREMENT")) {
                    names(t.getExpression(), names);
                }
                return super.visitUnary(t, v);
            }

            @Override
            public Void visitCompoundAssignment(CompoundAssignmentTree t, Void v) {
                names(t.getVariable(), names);
                return super.visitCompoundAssignment(t, v);
            }

            @Override
            public Void visitAssignment(AssignmentTree t, Void v) {
                names(t.getVariable(), names);
                return super.visitAssignment(t, v);
            }
        };
        for (Tree t : trees) {
            scanner.scan(t, null);
        }
        return names;
    }

    private static void bounded(String where, Tree condition, List<? extends Tree> steps) {
        Set<String> counters = compared(condition);
        counters.retainAll(counted(steps));
        holds(9, "the loop at " + where + " has a counter against a bound", !counters.isEmpty());
    }

    // ---- the walk over the tree

    private static final class Walk extends TreePathScanner<Void, Void> {
        private final Trees trees;
        private final CompilationUnitTree unit;
        private final Set<String> faceNames = new HashSet<>();
        private final Set<String> ownTypes = new TreeSet<>();
        private String method = "";
        private boolean inConstructor;

        Walk(Trees trees, CompilationUnitTree unit) {
            this.trees = trees;
            this.unit = unit;
        }

        private String at(Tree t) {
            return "line " + unit.getLineMap().getLineNumber(trees.getSourcePositions().getStartPosition(unit, t));
        }

        private Element element(Tree t) {
            return trees.getElement(new TreePath(getCurrentPath(), t));
        }

        private static String name(Element e) {
            return e.getEnclosingElement().getSimpleName() + "." + e.getSimpleName();
        }

        private static boolean isOwn(Element e) {
            Element c = e;
            while (c.getEnclosingElement() != null && c.getEnclosingElement().getKind() != ElementKind.PACKAGE) {
                c = c.getEnclosingElement();
            }
            return c.getSimpleName().contentEquals("CompletionLab");
        }

        @Override
        public Void visitClass(ClassTree t, Void v) {
            Element e = trees.getElement(getCurrentPath());
            boolean outer = e.getEnclosingElement().getKind() == ElementKind.PACKAGE;
            holds(2, at(t) + ": a static nested class", outer || e.getModifiers().contains(Modifier.STATIC));
            holds(1, at(t) + ": private, or the public one", e.getModifiers().contains(outer ? Modifier.PUBLIC : Modifier.PRIVATE));
            int fields = 0;
            for (Tree member : t.getMembers()) {
                holds(5, at(member) + ": no block of its own", member.getKind() != Tree.Kind.BLOCK);
                if (member instanceof VariableTree) {
                    Set<Modifier> modifiers = ((VariableTree) member).getModifiers().getFlags();
                    boolean isStatic = modifiers.contains(Modifier.STATIC);
                    fields += isStatic ? 0 : 1;
                    holds(5, at(member) + ": what is static is final", !isStatic || modifiers.contains(Modifier.FINAL));
                }
            }
            holds(11, at(t) + ": some twenty fields, not " + fields, fields <= 20);
            ownTypes.add(e.getSimpleName().toString());
            return super.visitClass(t, v);
        }

        @Override
        public Void visitMethod(MethodTree t, Void v) {
            ExecutableElement e = (ExecutableElement) trees.getElement(getCurrentPath());
            String outerMethod = method;
            method = name(e);
            inConstructor = e.getKind() == ElementKind.CONSTRUCTOR;
            CALLS.putIfAbsent(method, new HashSet<>());
            boolean face = e.getModifiers().contains(Modifier.PUBLIC);
            holds(1, at(t) + ": " + method + " bears no name of the face",
                    face || inConstructor || !faceNames.contains(e.getSimpleName().toString()));
            holds(11, at(t) + ": seven parameters at most", t.getParameters().size() <= 7);
            long from = unit.getLineMap().getLineNumber(trees.getSourcePositions().getStartPosition(unit, t));
            long to = unit.getLineMap().getLineNumber(Math.max(0, trees.getSourcePositions().getEndPosition(unit, t)));
            holds(11, at(t) + ": " + method + " is short", to - from < 60);
            super.visitMethod(t, v);
            method = outerMethod;
            inConstructor = false;
            return null;
        }

        @Override
        public Void visitVariable(VariableTree t, Void v) {
            if (t.getType() != null) {
                String type = t.getType().toString().replace("CompletionLab.", "");
                boolean known = TYPES.contains(type) || ownTypes.contains(type.replace("[]", ""));
                holds(3, at(t) + ": a type of the list, " + type, known && !type.contains("[][]"));
            }
            return super.visitVariable(t, v);
        }

        @Override
        public Void visitMethodInvocation(MethodInvocationTree t, Void v) {
            Element e = element(t.getMethodSelect());
            if (e.getKind() == ElementKind.CONSTRUCTOR) {
                return super.visitMethodInvocation(t, v);
            }
            if (isOwn(e)) {
                CALLS.computeIfAbsent(method, k -> new HashSet<>()).add(name(e));
            } else {
                holds(4, at(t) + ": " + name(e) + " is of the list", LIBRARY.contains(name(e)));
            }
            return super.visitMethodInvocation(t, v);
        }

        @Override
        public Void visitNewClass(NewClassTree t, Void v) {
            Element constructor = trees.getElement(getCurrentPath());
            Element made = constructor.getEnclosingElement();
            if (isOwn(made)) {
                CALLS.computeIfAbsent(method, k -> new HashSet<>()).add(name(constructor));
            }
            boolean thrown = getCurrentPath().getParentPath().getLeaf() instanceof ThrowTree;
            holds(4, at(t) + ": an own class, or an exception that is thrown", isOwn(made) || thrown);
            holds(2, at(t) + ": no class without a name", t.getClassBody() == null);
            holds(12, at(t) + ": made in a constructor, or with the object", thrown || inConstructor || method.isEmpty());
            return super.visitNewClass(t, v);
        }

        @Override
        public Void visitNewArray(NewArrayTree t, Void v) {
            holds(12, at(t) + ": a row is made in a constructor, or with the object", inConstructor || method.isEmpty());
            return super.visitNewArray(t, v);
        }

        @Override
        public Void visitThrow(ThrowTree t, Void v) {
            ExpressionTree what = t.getExpression();
            boolean made = what instanceof NewClassTree;
            holds(6, at(t) + ": throw new", made);
            if (made) {
                holds(6, at(t) + ": an exception of the document", EXCEPTIONS.contains(((NewClassTree) what).getIdentifier().toString()));
            }
            holds(6, at(t) + ": no throw in a constructor", !inConstructor);
            return super.visitThrow(t, v);
        }

        @Override
        public Void visitTry(TryTree t, Void v) {
            holds(6, at(t) + ": nothing is caught", false);
            return null;
        }

        @Override
        public Void visitSynchronized(SynchronizedTree t, Void v) {
            holds(6, at(t) + ": nothing is synchronized", false);
            return null;
        }

        @Override
        public Void visitAssert(AssertTree t, Void v) {
            holds(6, at(t) + ": no assert", false);
            return null;
        }

        @Override
        public Void visitLambdaExpression(LambdaExpressionTree t, Void v) {
            holds(2, at(t) + ": no lambda", false);
            return null;
        }

        @Override
        public Void visitMemberReference(MemberReferenceTree t, Void v) {
            holds(2, at(t) + ": no method reference", false);
            return null;
        }

        @Override
        public Void visitInstanceOf(InstanceOfTree t, Void v) {
            holds(6, at(t) + ": none is needed", false);
            return null;
        }

        @Override
        public Void visitTypeCast(TypeCastTree t, Void v) {
            holds(6, at(t) + ": casts among numbers alone", trees.getTypeMirror(getCurrentPath()).getKind() != TypeKind.DECLARED);
            return super.visitTypeCast(t, v);
        }

        @Override
        public Void visitBinary(BinaryTree t, Void v) {
            holds(10, at(t) + ": no texts joined", trees.getTypeMirror(getCurrentPath()).getKind() != TypeKind.DECLARED);
            if (t.getKind() == Tree.Kind.DIVIDE || t.getKind() == Tree.Kind.REMAINDER) {
                divides(t, t.getRightOperand());
            }
            return super.visitBinary(t, v);
        }

        @Override
        public Void visitCompoundAssignment(CompoundAssignmentTree t, Void v) {
            if (t.getKind() == Tree.Kind.DIVIDE_ASSIGNMENT || t.getKind() == Tree.Kind.REMAINDER_ASSIGNMENT) {
                divides(t, t.getExpression());
            }
            return super.visitCompoundAssignment(t, v);
        }

        private void divides(Tree t, ExpressionTree by) {
            Element e = element(by);
            boolean constant = e instanceof VariableElement && ((VariableElement) e).getConstantValue() instanceof Integer
                    && (Integer) ((VariableElement) e).getConstantValue() != 0;
            boolean shown = by.toString().matches("[1-9][0-9]*|Math\\.max\\([1-9][0-9]*, .*\\)");
            holds(7, at(t) + ": a divisor that can't be 0, " + by, constant || shown);
        }

        @Override
        public Void visitMemberSelect(MemberSelectTree t, Void v) {
            String name = t.getIdentifier().toString();
            holds(4, at(t) + ": nothing of a class's own face, " + name, !name.equals("class") && !name.equals("getClass"));
            return super.visitMemberSelect(t, v);
        }

        @Override
        public Void visitForLoop(ForLoopTree t, Void v) {
            bounded(at(t), t.getCondition(), t.getUpdate());
            return super.visitForLoop(t, v);
        }

        @Override
        public Void visitWhileLoop(WhileLoopTree t, Void v) {
            bounded(at(t), t.getCondition(), List.of(t.getStatement()));
            return super.visitWhileLoop(t, v);
        }

        @Override
        public Void visitDoWhileLoop(DoWhileLoopTree t, Void v) {
            bounded(at(t), t.getCondition(), List.of(t.getStatement()));
            return super.visitDoWhileLoop(t, v);
        }

        @Override
        public Void visitEnhancedForLoop(EnhancedForLoopTree t, Void v) {
            TypeKind over = trees.getTypeMirror(new TreePath(getCurrentPath(), t.getExpression())).getKind();
            holds(12, at(t) + ": over a row, not a list, whose iterator would be made", over == TypeKind.ARRAY);
            return super.visitEnhancedForLoop(t, v);
        }
    }

    private static void look(JavaCompiler compiler) throws IOException {
        StandardJavaFileManager files = compiler.getStandardFileManager(null, null, StandardCharsets.UTF_8);
        JavacTask task = (JavacTask) compiler.getTask(null, files, null, List.of("-proc:none"), null,
                files.getJavaFileObjects(Path.of("src/main/java/CompletionLab.java")));
        CompilationUnitTree unit = task.parse().iterator().next();
        task.analyze();
        Walk walk = new Walk(Trees.instance(task), unit);
        holds(1, "one class in the file", unit.getTypeDecls().size() == 1);
        holds(1, "no package line", unit.getPackage() == null);
        ClassTree outer = (ClassTree) unit.getTypeDecls().get(0);
        for (Tree member : outer.getMembers()) {
            if (member instanceof MethodTree && ((MethodTree) member).getModifiers().getFlags().contains(Modifier.PUBLIC)) {
                walk.faceNames.add(((MethodTree) member).getName().toString());
            }
            if (member instanceof ClassTree) {
                walk.ownTypes.add(((ClassTree) member).getSimpleName().toString());
            }
        }
        walk.scan(unit, null);
        holds(11, "some twelve classes, not " + walk.ownTypes.size(), walk.ownTypes.size() <= 12);
        int deepest = 0;
        for (String method : CALLS.keySet()) {
            int deep = deep(method, new ArrayDeque<>());
            deepest = Math.max(deepest, deep);
            holds(11, method + " stands over " + deep + " calls", deep <= CALLS_DEEP);
        }
        files.close();
        System.out.println("RulesTest: " + looked + " places looked at, calls go " + deepest + " deep, " + wrong + " not so");
    }

    public static void main(String[] args) throws IOException {
        JavaCompiler compiler = ToolProvider.getSystemJavaCompiler();
        if (compiler == null) {
            System.out.println("RulesTest: this Java machine brings no compiler's trees; nothing was looked at");
            return;
        }
        look(compiler);
        if (wrong > 0) {
            System.exit(1);
        }
    }
}
