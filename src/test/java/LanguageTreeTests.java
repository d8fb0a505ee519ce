import com.sun.source.tree.ArrayAccessTree;
import com.sun.source.tree.AssignmentTree;
import com.sun.source.tree.BinaryTree;
import com.sun.source.tree.ClassTree;
import com.sun.source.tree.CompilationUnitTree;
import com.sun.source.tree.CompoundAssignmentTree;
import com.sun.source.tree.ConditionalExpressionTree;
import com.sun.source.tree.DoWhileLoopTree;
import com.sun.source.tree.ExpressionTree;
import com.sun.source.tree.ForLoopTree;
import com.sun.source.tree.InstanceOfTree;
import com.sun.source.tree.LambdaExpressionTree;
import com.sun.source.tree.MemberReferenceTree;
import com.sun.source.tree.MethodInvocationTree;
import com.sun.source.tree.MethodTree;
import com.sun.source.tree.NewArrayTree;
import com.sun.source.tree.NewClassTree;
import com.sun.source.tree.ParenthesizedTree;
import com.sun.source.tree.ThrowTree;
import com.sun.source.tree.Tree;
import com.sun.source.tree.TryTree;
import com.sun.source.tree.TypeCastTree;
import com.sun.source.tree.UnaryTree;
import com.sun.source.tree.VariableTree;
import com.sun.source.tree.WhileLoopTree;
import com.sun.source.util.JavacTask;
import com.sun.source.util.TreePath;
import com.sun.source.util.TreePathScanner;
import com.sun.source.util.Trees;
import java.nio.file.Path;
import java.util.HashMap;
import java.util.HashSet;
import java.util.List;
import java.util.Map;
import java.util.Set;
import java.util.TreeMap;
import java.util.TreeSet;
import javax.lang.model.element.Element;
import javax.lang.model.element.ElementKind;
import javax.lang.model.element.ExecutableElement;
import javax.lang.model.element.Modifier;
import javax.lang.model.element.TypeElement;
import javax.lang.model.element.VariableElement;
import javax.lang.model.type.TypeMirror;
import javax.tools.JavaCompiler;
import javax.tools.StandardJavaFileManager;
import javax.tools.ToolProvider;

/** The rules of LANGUAGE.md, looked for in the source as the compiler reads it. */
public final class LanguageTreeTests {
    /** What rule 4 lists of the library, as far as the class needs it. */
    private static final Set<String> LIBRARY = Set.of(
        "String.length", "String.charAt", "Integer.bitCount", "Integer.compare", "Math.max", "Math.min",
        "Arrays.fill", "Arrays.copyOf", "System.arraycopy");
    private static final Set<String> PLAIN = Set.of("int", "long", "boolean", "void", "java.lang.String", "int[]", "int[][]");
    private static final int DEEPEST = 8;

    private static int wrong;
    private static int looked;

    public static void main(String[] args) throws Exception {
        JavaCompiler compiler = ToolProvider.getSystemJavaCompiler();
        if (compiler == null) {
            System.out.println("this java has no compiler to ask; LanguageTests has looked at the lines");
            return;
        }
        String source = System.getProperty("deskmoves.source", "src/main/java/DeskMoves.java");
        try (StandardJavaFileManager files = compiler.getStandardFileManager(null, null, null)) {
            JavacTask task = (JavacTask) compiler.getTask(null, files, null, List.of("-proc:none"), null,
                files.getJavaFileObjects(Path.of(source)));
            Iterable<? extends CompilationUnitTree> units = task.parse();
            task.analyze();
            for (CompilationUnitTree unit : units) {
                new Reader(unit, Trees.instance(task)).read();
            }
        }
        System.out.println(looked + " places looked at, " + wrong + " do not hold");
        if (wrong != 0 || looked == 0) {
            System.exit(1);
        }
    }

    static final class Reader extends TreePathScanner<Void, Void> {
        private final CompilationUnitTree unit;
        private final Trees trees;
        private final Set<String> classes = new TreeSet<>();
        private final Set<String> faceNames = new HashSet<>();
        private final Map<String, Integer> fields = new TreeMap<>();
        private final Map<String, Set<String>> calls = new TreeMap<>();
        private final Map<String, String> parameters = new HashMap<>();
        private int loops;

        Reader(CompilationUnitTree unit, Trees trees) {
            this.unit = unit;
            this.trees = trees;
        }

        void read() {
            hold(null, unit.getPackage() == null, "no package line");
            hold(null, unit.getTypeDecls().size() == 1, "one class in the file");
            for (Tree member : ((ClassTree) unit.getTypeDecls().get(0)).getMembers()) {
                if (member instanceof MethodTree m && m.getReturnType() != null
                    && m.getModifiers().getFlags().contains(Modifier.PUBLIC)) {
                    faceNames.add(m.getName().toString());
                }
            }
            scan(unit, null);
            hold(null, classes.size() <= 12, "rule 11: some twelve classes: " + classes);
            fields.forEach((name, n) -> hold(null, n <= 20, "rule 11: " + name + " has " + n + " fields"));
            depths();
        }

        private void hold(Tree tree, boolean holds, String what) {
            looked++;
            if (!holds) {
                wrong++;
                long line = tree == null ? 0 : lineOf(trees.getSourcePositions().getStartPosition(unit, tree));
                System.out.println("line " + line + ": " + what);
            }
        }

        private long lineOf(long position) {
            return unit.getLineMap().getLineNumber(position);
        }

        private Element element(Tree tree) {
            return trees.getElement(new TreePath(getCurrentPath().getParentPath(), tree));
        }

        private Element elementIn(Tree tree) {
            return trees.getElement(new TreePath(getCurrentPath(), tree));
        }

        private TypeMirror typeIn(Tree tree) {
            return trees.getTypeMirror(new TreePath(getCurrentPath(), tree));
        }

        private static boolean isOwn(Element e) {
            for (Element up = e; up != null; up = up.getEnclosingElement()) {
                if (up.getSimpleName().contentEquals("DeskMoves")) {
                    return true;
                }
            }
            return false;
        }

        private static boolean isOwnType(String type) {
            return type.startsWith("DeskMoves");
        }

        private void typeIsPlain(Tree tree, TypeMirror type) {
            String name = type.toString();
            boolean ownRow = name.endsWith("[]") && isOwnType(name.substring(0, name.length() - 2)) && !name.endsWith("[][]");
            hold(tree, PLAIN.contains(name) || isOwnType(name) && !name.contains("[") || ownRow, "rule 3: type " + name);
        }

        @Override
        public Void visitClass(ClassTree c, Void none) {
            String name = c.getSimpleName().toString();
            classes.add(name);
            Set<Modifier> mods = c.getModifiers().getFlags();
            Tree parent = getCurrentPath().getParentPath().getLeaf();
            boolean outer = parent instanceof CompilationUnitTree;
            hold(c, !name.isEmpty(), "rule 2: no class without a name");
            hold(c, mods.contains(Modifier.FINAL), "every class is final, so that no constructor calls what another could override");
            hold(c, outer == mods.contains(Modifier.PUBLIC), "rule 1: one public class");
            hold(c, outer || parent instanceof ClassTree && mods.contains(Modifier.STATIC), "rule 1: classes inside are static members");
            hold(c, c.getExtendsClause() == null && c.getImplementsClause().isEmpty(), name + " stands alone");
            for (Tree member : c.getMembers()) {
                hold(member, !(member instanceof com.sun.source.tree.BlockTree), "rule 5: no initialiser block");
                if (member instanceof VariableTree v) {
                    field(name, v, outer);
                }
            }
            return super.visitClass(c, none);
        }

        private void field(String owner, VariableTree v, boolean outer) {
            Set<Modifier> mods = v.getModifiers().getFlags();
            if (mods.contains(Modifier.STATIC)) {
                hold(v, mods.contains(Modifier.FINAL), "rule 5: static " + v.getName() + " is final");
                VariableElement e = (VariableElement) elementIn(v);
                boolean constant = e.getConstantValue() != null;
                boolean written = v.getInitializer() instanceof NewArrayTree a && a.getInitializers() != null;
                hold(v, constant || written, "rule 5: static " + v.getName() + " is a constant or written out");
            } else {
                fields.merge(owner, 1, Integer::sum);
            }
            boolean face = v.getName().contentEquals("NONE") || v.getName().contentEquals("HIDDEN");
            hold(v, !outer || (face ? mods.contains(Modifier.PUBLIC) : mods.contains(Modifier.PRIVATE)), "rule 1: " + v.getName());
        }

        @Override
        public Void visitMethod(MethodTree m, Void none) {
            ExecutableElement e = (ExecutableElement) element(m);
            String name = m.getName().toString();
            hold(m, m.getParameters().size() <= 7, "rule 11: " + name + " takes at most seven");
            long first = lineOf(trees.getSourcePositions().getStartPosition(unit, m));
            long last = lineOf(trees.getSourcePositions().getEndPosition(unit, m));
            hold(m, last - first <= 60, "rule 11: " + name + " is short");
            typeIsPlain(m, e.getReturnType());
            boolean isFace = e.getModifiers().contains(Modifier.PUBLIC);
            hold(m, isFace || !faceNames.contains(name), "rule 1: " + name + " is a name of the face");
            hold(m, e.getThrownTypes().isEmpty() == !name.equals("desk"), "rule 6: what " + name + " throws");
            calls.putIfAbsent(keyOf(e), new TreeSet<>());
            parameters.put(keyOf(e), m.getParameters().toString());
            return super.visitMethod(m, none);
        }

        private static String keyOf(Element e) {
            return ((TypeElement) e.getEnclosingElement()).getSimpleName() + "." + e.getSimpleName();
        }

        @Override
        public Void visitVariable(VariableTree v, Void none) {
            Element e = trees.getElement(getCurrentPath());
            typeIsPlain(v, e.asType());
            hold(v, !"var".equals(String.valueOf(v.getType())), "a type is written");
            return super.visitVariable(v, none);
        }

        /** The method or, for what stands outside of methods, the constructor. */
        private String enclosing() {
            for (TreePath up = getCurrentPath(); up != null; up = up.getParentPath()) {
                if (up.getLeaf() instanceof MethodTree) {
                    return keyOf(trees.getElement(up));
                }
                if (up.getLeaf() instanceof ClassTree c) {
                    return c.getSimpleName() + ".<init>";
                }
            }
            return "";
        }

        @Override
        public Void visitMethodInvocation(MethodInvocationTree call, Void none) {
            Element e = elementIn(call.getMethodSelect());
            boolean init = e.getKind() == ElementKind.CONSTRUCTOR;
            if (isOwn(e)) {
                calls.computeIfAbsent(enclosing(), k -> new TreeSet<>()).add(keyOf(e));
            } else if (!init) {
                hold(call, LIBRARY.contains(keyOf(e)), "rule 4: " + keyOf(e));
            }
            return super.visitMethodInvocation(call, none);
        }

        @Override
        public Void visitNewClass(NewClassTree made, Void none) {
            hold(made, made.getClassBody() == null, "rule 2: no class without a name");
            Element e = trees.getElement(getCurrentPath());
            if (isOwn(e)) {
                calls.computeIfAbsent(enclosing(), k -> new TreeSet<>()).add(keyOf(e));
            } else {
                Tree parent = getCurrentPath().getParentPath().getLeaf();
                hold(made, parent instanceof ThrowTree, "rule 4: new " + made.getIdentifier());
            }
            hold(made, loops == 0, "rule 12: an object made in a loop");
            return super.visitNewClass(made, none);
        }

        @Override
        public Void visitNewArray(NewArrayTree made, Void none) {
            hold(made, loops == 0, "rule 12: a row made in a loop");
            hold(made, made.getDimensions().size() <= 1, "rule 3: one dimension");
            return super.visitNewArray(made, none);
        }

        @Override
        public Void visitThrow(ThrowTree t, Void none) {
            hold(t, t.getExpression().toString().equals("new NoSuchElementException()"), "rule 6: " + t);
            hold(t, enclosing().equals("DeskMoves.desk"), "rule 6: desk alone throws");
            return super.visitThrow(t, none);
        }

        @Override
        public Void visitTry(TryTree t, Void none) {
            hold(t, false, "nothing is caught");
            return super.visitTry(t, none);
        }

        @Override
        public Void visitLambdaExpression(LambdaExpressionTree t, Void none) {
            hold(t, false, "rule 2: no lambda");
            return super.visitLambdaExpression(t, none);
        }

        @Override
        public Void visitMemberReference(MemberReferenceTree t, Void none) {
            hold(t, false, "rule 2: no method reference");
            return super.visitMemberReference(t, none);
        }

        @Override
        public Void visitInstanceOf(InstanceOfTree t, Void none) {
            hold(t, false, "no instanceof is needed");
            return super.visitInstanceOf(t, none);
        }

        @Override
        public Void visitTypeCast(TypeCastTree t, Void none) {
            hold(t, t.getType() instanceof com.sun.source.tree.PrimitiveTypeTree, "rule 7: a cast among objects");
            return super.visitTypeCast(t, none);
        }

        // ---- rule 7: divisors; rule 10: no joining of texts by +

        @Override
        public Void visitBinary(BinaryTree b, Void none) {
            Tree.Kind kind = b.getKind();
            if (kind == Tree.Kind.DIVIDE || kind == Tree.Kind.REMAINDER) {
                hold(b, isConstant(b.getRightOperand()) || isAskedForZero(b.getRightOperand()), "rule 7: a divisor: " + b);
            }
            boolean texts = isText(b.getLeftOperand()) || isText(b.getRightOperand());
            hold(b, !texts, "rules 6 and 10: texts: " + b);
            return super.visitBinary(b, none);
        }

        private boolean isText(Tree t) {
            TypeMirror type = typeIn(t);
            return type != null && type.toString().equals("java.lang.String");
        }

        private boolean isConstant(Tree t) {
            if (t instanceof com.sun.source.tree.LiteralTree l) {
                return l.getValue() instanceof Integer n && n != 0;
            }
            Element e = elementIn(t);
            return e instanceof VariableElement v && v.getConstantValue() instanceof Integer n && n != 0;
        }

        private boolean isAskedForZero(Tree divisor) {
            Tree parent = getCurrentPath().getParentPath().getLeaf();
            return parent instanceof ConditionalExpressionTree c
                && bare(c.getCondition()).equals(divisor + " == 0")
                && c.getFalseExpression() == getCurrentPath().getLeaf();
        }

        private static String bare(ExpressionTree t) {
            return (t instanceof ParenthesizedTree p ? p.getExpression() : t).toString();
        }

        // ---- rule 9: loops

        @Override
        public Void visitForLoop(ForLoopTree loop, Void none) {
            hold(loop, loop.getCondition() != null && hasComparison(loop.getCondition().toString()), "rule 9: a loop without an end");
            hold(loop, loop.getUpdate().size() == 1, "rule 9: a loop without a step");
            loops++;
            super.visitForLoop(loop, none);
            loops--;
            return null;
        }

        @Override
        public Void visitWhileLoop(WhileLoopTree loop, Void none) {
            String body = loop.getStatement().toString();
            hold(loop, hasComparison(loop.getCondition().toString()) && (body.contains("++") || body.contains("--")),
                "rule 9: a loop without a counter");
            loops++;
            super.visitWhileLoop(loop, none);
            loops--;
            return null;
        }

        @Override
        public Void visitDoWhileLoop(DoWhileLoopTree loop, Void none) {
            hold(loop, false, "rule 9: a loop whose end stands behind it");
            return super.visitDoWhileLoop(loop, none);
        }

        private static boolean hasComparison(String condition) {
            return condition.contains("<") || condition.contains(">");
        }

        // ---- rule 5: rows of constants are never changed

        @Override
        public Void visitAssignment(AssignmentTree a, Void none) {
            notStatic(a, a.getVariable());
            return super.visitAssignment(a, none);
        }

        @Override
        public Void visitCompoundAssignment(CompoundAssignmentTree a, Void none) {
            notStatic(a, a.getVariable());
            return super.visitCompoundAssignment(a, none);
        }

        @Override
        public Void visitUnary(UnaryTree u, Void none) {
            Tree.Kind kind = u.getKind();
            boolean steps = kind == Tree.Kind.POSTFIX_INCREMENT || kind == Tree.Kind.POSTFIX_DECREMENT
                || kind == Tree.Kind.PREFIX_INCREMENT || kind == Tree.Kind.PREFIX_DECREMENT;
            if (steps) {
                notStatic(u, u.getExpression());
            }
            return super.visitUnary(u, none);
        }

        private void notStatic(Tree where, Tree changed) {
            Tree row = changed instanceof ArrayAccessTree access ? access.getExpression() : changed;
            Element e = trees.getElement(TreePath.getPath(unit, row));
            hold(where, e == null || !e.getModifiers().contains(Modifier.STATIC), "rule 5: " + changed + " is changed");
        }

        // ---- rules 8 and 11: how deep calls go

        private void depths() {
            Map<String, Set<String>> reached = new HashMap<>();
            for (String method : calls.keySet()) {
                reached.put(method, reach(method));
            }
            for (String method : calls.keySet()) {
                if (reached.get(method).contains(method)) {
                    hold(null, parameters.get(method).contains("int depth"), "rule 8: " + method + " carries its depth");
                }
            }
            Map<String, Integer> known = new HashMap<>();
            int deepest = 0;
            for (String method : calls.keySet()) {
                deepest = Math.max(deepest, depth(method, reached, known));
            }
            hold(null, deepest <= DEEPEST, "rule 11: calls go " + deepest + " deep");
        }

        private Set<String> reach(String method) {
            Set<String> found = new HashSet<>();
            List<String> open = new java.util.ArrayList<>(calls.getOrDefault(method, Set.of()));
            while (!open.isEmpty()) {
                String next = open.remove(open.size() - 1);
                if (found.add(next)) {
                    open.addAll(calls.getOrDefault(next, Set.of()));
                }
            }
            return found;
        }

        /** Methods that call one another count once. */
        private int depth(String method, Map<String, Set<String>> reached, Map<String, Integer> known) {
            Integer before = known.get(method);
            if (before != null) {
                return before;
            }
            int below = 0;
            for (String next : reached.getOrDefault(method, Set.of())) {
                boolean together = reached.getOrDefault(next, Set.of()).contains(method);
                if (!together) {
                    below = Math.max(below, depth(next, reached, known));
                }
            }
            known.put(method, below + 1);
            return below + 1;
        }
    }
}
