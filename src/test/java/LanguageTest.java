import com.sun.source.tree.*;
import com.sun.source.util.JavacTask;
import com.sun.source.util.SourcePositions;
import com.sun.source.util.TreePath;
import com.sun.source.util.TreePathScanner;
import com.sun.source.util.Trees;
import java.nio.file.Path;
import java.util.*;
import javax.lang.model.element.*;
import javax.lang.model.type.ArrayType;
import javax.lang.model.type.TypeKind;
import javax.lang.model.type.TypeMirror;
import javax.tools.JavaCompiler;
import javax.tools.StandardJavaFileManager;
import javax.tools.ToolProvider;

/** The rules of LANGUAGE.md that can be seen in the source, which javac's own reader takes apart for this. */
public final class LanguageTest {
    private static final Path SOURCE = Path.of("src/main/java/TheoryCourt.java");
    private static final Set<String> LIBRARY = Set.of("java.lang.String.charAt", "java.lang.String.indexOf",
        "java.lang.Integer.bitCount", "java.lang.Long.bitCount", "java.lang.Math.max", "java.lang.Math.min",
        "java.lang.Math.abs", "java.lang.System.arraycopy", "java.util.Arrays.fill", "java.util.Arrays.copyOfRange",
        "java.lang.Object.<init>");
    private static final Set<Tree.Kind> BANNED = EnumSet.of(Tree.Kind.THROW, Tree.Kind.TRY, Tree.Kind.CATCH,
        Tree.Kind.SYNCHRONIZED, Tree.Kind.ASSERT, Tree.Kind.LAMBDA_EXPRESSION, Tree.Kind.MEMBER_REFERENCE,
        Tree.Kind.INSTANCE_OF, Tree.Kind.SWITCH_EXPRESSION, Tree.Kind.ENUM, Tree.Kind.RECORD, Tree.Kind.INTERFACE,
        Tree.Kind.WHILE_LOOP, Tree.Kind.DO_WHILE_LOOP, Tree.Kind.PACKAGE, Tree.Kind.ANNOTATION);
    private static final Set<Tree.Kind> STEPS = EnumSet.of(Tree.Kind.POSTFIX_INCREMENT, Tree.Kind.POSTFIX_DECREMENT,
        Tree.Kind.PLUS_ASSIGNMENT, Tree.Kind.MINUS_ASSIGNMENT);
    private static final Set<Tree.Kind> LIMITS = EnumSet.of(Tree.Kind.LESS_THAN, Tree.Kind.LESS_THAN_EQUAL,
        Tree.Kind.GREATER_THAN, Tree.Kind.GREATER_THAN_EQUAL);
    private static final int MOST_PARAMETERS = 7;
    private static final int MOST_LINES = 60;
    private static final int MOST_CALLS = 8;
    private static final int MOST_CLASSES = 12;
    private static final int MOST_FIELDS = 20;

    public static void main(String[] args) throws Exception {
        Bench b = new Bench("LanguageTest");
        JavaCompiler compiler = ToolProvider.getSystemJavaCompiler();
        try (StandardJavaFileManager files = compiler.getStandardFileManager(null, null, null)) {
            JavacTask task = (JavacTask) compiler.getTask(null, files, null, List.of("-proc:none"), null,
                files.getJavaFileObjects(SOURCE));
            CompilationUnitTree unit = task.parse().iterator().next();
            task.analyze();
            Look look = new Look(b, Trees.instance(task), unit);
            look.scan(new TreePath(unit), null);
            look.calls();
            b.due("rule 11: classes are few", look.classes <= MOST_CLASSES ? 1 : 0, 1);
            b.due("the source was looked at: classes, methods", look.classes > 1 && look.called.size() > 100 ? 1 : 0, 1);
        }
        b.finish();
    }

    private static final class Look extends TreePathScanner<Void, Void> {
        private final Bench b;
        private final Trees trees;
        private final SourcePositions positions;
        private final CompilationUnitTree unit;
        private final Map<Element, Set<Element>> called = new LinkedHashMap<>();
        private final Map<Element, Integer> deep = new HashMap<>();
        private Element method = null;
        private int classes = 0;

        Look(Bench b, Trees trees, CompilationUnitTree unit) {
            this.b = b;
            this.trees = trees;
            this.positions = trees.getSourcePositions();
            this.unit = unit;
        }

        private void wrong(String rule, Tree tree) {
            long line = unit.getLineMap().getLineNumber(positions.getStartPosition(unit, tree));
            b.due(rule + ", line " + line, 1, 0);
        }

        private void must(boolean so, String rule, Tree tree) {
            if (!so) {
                wrong(rule, tree);
            }
        }

        private long lineOf(long position) {
            return unit.getLineMap().getLineNumber(position);
        }

        @Override
        public Void scan(Tree tree, Void nothing) {
            if (tree != null && BANNED.contains(tree.getKind())) {
                wrong("rules 2, 6, 9: no " + tree.getKind(), tree);
            }
            return super.scan(tree, nothing);
        }

        @Override
        public Void visitClass(ClassTree tree, Void nothing) {
            classes++;
            Set<Modifier> flags = tree.getModifiers().getFlags();
            boolean inside = getCurrentPath().getParentPath().getLeaf() != unit;
            must(!inside || flags.contains(Modifier.STATIC), "rule 2: a class inside is static", tree);
            must(flags.contains(Modifier.FINAL), "a class that none extends", tree);
            must(tree.getExtendsClause() == null && tree.getImplementsClause().isEmpty(), "a class by itself", tree);
            int fields = 0;
            for (Tree member : tree.getMembers()) {
                must(member.getKind() != Tree.Kind.BLOCK, "rule 5: no initialiser block", member);
                if (member instanceof VariableTree) {
                    VariableTree field = (VariableTree) member;
                    boolean fixed = field.getModifiers().getFlags().contains(Modifier.STATIC);
                    fields += fixed ? 0 : 1;
                    must(!fixed || isConstant(field), "rule 5: static fields are constants", member);
                }
            }
            must(fields <= MOST_FIELDS, "rule 11: fields are few", tree);
            return super.visitClass(tree, nothing);
        }

        private static boolean isConstant(VariableTree field) {
            Tree value = field.getInitializer();
            boolean writtenOut = field.getType().getKind() != Tree.Kind.ARRAY_TYPE
                || value instanceof NewArrayTree && ((NewArrayTree) value).getInitializers() != null;
            return field.getModifiers().getFlags().contains(Modifier.FINAL) && value != null && writtenOut;
        }

        @Override
        public Void visitMethod(MethodTree tree, Void nothing) {
            Element before = method;
            method = trees.getElement(getCurrentPath());
            called.put(method, new LinkedHashSet<>());
            long start = positions.getStartPosition(unit, tree);
            long end = positions.getEndPosition(unit, tree);
            if (end > start) {
                must(lineOf(end) - lineOf(start) < MOST_LINES, "rule 11: methods are short", tree);
            }
            must(tree.getParameters().size() <= MOST_PARAMETERS, "rule 11: parameters are few", tree);
            must(tree.getThrows().isEmpty(), "rule 6: nothing is thrown", tree);
            super.visitMethod(tree, nothing);
            method = before;
            return null;
        }

        @Override
        public Void visitVariable(VariableTree tree, Void nothing) {
            TypeMirror type = trees.getTypeMirror(new TreePath(getCurrentPath(), tree.getType()));
            must(isAllowed(type, 0), "rule 3: the type " + type, tree);
            return super.visitVariable(tree, nothing);
        }

        private static boolean isAllowed(TypeMirror type, int dimensions) {
            if (type.getKind() == TypeKind.ARRAY) {
                return dimensions < 2 && isAllowed(((ArrayType) type).getComponentType(), dimensions + 1);
            }
            if (type.getKind().isPrimitive()) {
                return type.getKind() != TypeKind.DOUBLE && type.getKind() != TypeKind.FLOAT;
            }
            boolean ours = type.toString().startsWith("TheoryCourt");
            return dimensions < 2 && (ours || dimensions == 0 && type.toString().equals("java.lang.String"));
        }

        @Override
        public Void visitMethodInvocation(MethodInvocationTree tree, Void nothing) {
            note(trees.getElement(getCurrentPath()), tree);
            return super.visitMethodInvocation(tree, nothing);
        }

        @Override
        public Void visitNewClass(NewClassTree tree, Void nothing) {
            must(tree.getClassBody() == null, "rule 2: no anonymous class", tree);
            note(trees.getElement(getCurrentPath()), tree);
            return super.visitNewClass(tree, nothing);
        }

        private void note(Element target, Tree tree) {
            if (!isOurs(target)) {
                must(LIBRARY.contains(nameOf(target)), "rule 4: " + nameOf(target), tree);
            }
            if (method != null) {
                called.get(method).add(target);
            }
        }

        private static boolean isOurs(Element target) {
            return target.getEnclosingElement().toString().startsWith("TheoryCourt");
        }

        private static String nameOf(Element target) {
            return target.getEnclosingElement() + "." + target.getSimpleName();
        }

        @Override
        public Void visitMemberSelect(MemberSelectTree tree, Void nothing) {
            Element target = trees.getElement(getCurrentPath());
            boolean field = target != null && target.getKind() == ElementKind.FIELD && target.getEnclosingElement() != null;
            must(!field || isOurs(target) || nameOf(target).endsWith("Array.length"), "rule 4: " + target, tree);
            return super.visitMemberSelect(tree, nothing);
        }

        @Override
        public Void visitBinary(BinaryTree tree, Void nothing) {
            String left = String.valueOf(trees.getTypeMirror(new TreePath(getCurrentPath(), tree.getLeftOperand())));
            String right = String.valueOf(trees.getTypeMirror(new TreePath(getCurrentPath(), tree.getRightOperand())));
            must(!left.startsWith("java.lang") && !right.startsWith("java.lang"), "rules 6, 10: texts by " + tree.getKind(), tree);
            return super.visitBinary(tree, nothing);
        }

        /** Rule 9: a counter that the loop's head moves, holds against a bound, and that its body leaves alone. */
        @Override
        public Void visitForLoop(ForLoopTree tree, Void nothing) {
            must(tree.getUpdate().size() == 1, "rule 9: a loop has one counter", tree);
            for (ExpressionStatementTree update : tree.getUpdate()) {
                ExpressionTree step = update.getExpression();
                must(STEPS.contains(step.getKind()), "rule 9: a counter is moved", tree);
                String counter = step instanceof UnaryTree ? ((UnaryTree) step).getExpression().toString()
                    : step instanceof CompoundAssignmentTree ? ((CompoundAssignmentTree) step).getVariable().toString() : "";
                must(isHeld(tree.getCondition(), counter), "rule 9: a counter has a bound", tree);
                must(!isChanged(tree.getStatement(), counter), "rule 9: a counter is the loop's own", tree);
            }
            return super.visitForLoop(tree, nothing);
        }

        private static boolean isHeld(ExpressionTree condition, String counter) {
            if (condition instanceof BinaryTree) {
                BinaryTree both = (BinaryTree) condition;
                if (condition.getKind() == Tree.Kind.CONDITIONAL_AND) {
                    return isHeld(both.getLeftOperand(), counter) || isHeld(both.getRightOperand(), counter);
                }
                String held = both.getLeftOperand().toString();
                return LIMITS.contains(condition.getKind()) && (held.equals(counter) || held.startsWith(counter + " + "));
            }
            return false;
        }

        private static boolean isChanged(StatementTree body, String counter) {
            String text = body.toString();
            return text.matches("(?s).*\\b" + counter + " ([-+*/%&|^]|<<|>>|>>>)?= .*")
                || text.matches("(?s).*\\b" + counter + "(\\+\\+|--).*") || text.matches("(?s).*(\\+\\+|--)" + counter + "\\b.*");
        }

        /** Rules 8, 11: no method stands in itself, and no call is deeper than eight. */
        void calls() {
            for (Element each : called.keySet()) {
                b.due("rules 8, 11: calls of " + nameOf(each) + " are " + depth(each, 0) + " deep",
                    depth(each, 0) <= MOST_CALLS ? 1 : 0, 1);
            }
        }

        private int depth(Element each, int open) {
            Integer known = deep.get(each);
            if (known != null || open > called.size()) {
                return known != null ? known : open;
            }
            int most = 0;
            for (Element target : called.getOrDefault(each, Set.of())) {
                most = Math.max(most, depth(target, open + 1));
            }
            deep.put(each, most + 1);
            return most + 1;
        }
    }
}
