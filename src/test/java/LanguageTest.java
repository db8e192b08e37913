import com.sun.source.tree.*;
import com.sun.source.util.SourcePositions;
import com.sun.source.util.TreePath;
import com.sun.source.util.TreePathScanner;
import java.util.HashMap;
import java.util.List;
import java.util.Map;
import java.util.Set;
import java.util.TreeSet;
import javax.lang.model.element.Element;
import javax.lang.model.element.ElementKind;
import javax.lang.model.element.Modifier;
import javax.lang.model.element.VariableElement;
import javax.lang.model.type.TypeMirror;

/**
 * LANGUAGE.md, rule by rule, as far as the program's tree tells. It is closer than the rules: what they allow and the
 * program does without (lists, texts, records, catches, recursion and the like) is found here too.
 */
public final class LanguageTest {
    private static final int MOST_PARAMETERS = 7;
    private static final int MOST_LINES = 60;
    private static final int MOST_CLASSES = 12;
    private static final int MOST_FIELDS = 20;
    private static final int DEEPEST = 8;
    private static final Set<String> LIBRARY = Set.of("Math.max", "Math.min", "System.arraycopy");
    private static final Set<String> EXCEPTIONS = Set.of("IllegalArgumentException", "IllegalStateException");
    private static final String TYPE = "(int|long|boolean)(\\[\\]){0,2}|MarkdownPlanner\\.\\w+(\\[\\])?";

    public static void main(String[] args) {
        Checks checks = new Checks("LanguageTest");
        Source source = new Source();
        Finder finder = new Finder(source);
        finder.scan(new TreePath(source.unit), null);
        finder.lookAtDepth();
        checks.due("what LANGUAGE.md rules out", "[]", finder.found.toString());
        checks.due("methods that were looked at", 1, finder.calls.size() > 30 ? 1 : 0);
        checks.due("signs beyond 127", 0, Source.text().chars().filter(sign -> sign > 127).count());
        checks.end();
    }

    /** Goes through the whole tree and keeps what is against a rule, and which method calls which. */
    private static final class Finder extends TreePathScanner<Void, Void> {
        private final Source source;
        private final TreeSet<String> found = new TreeSet<>();
        private final Map<Element, Set<Element>> calls = new HashMap<>();
        private int classes;

        Finder(Source source) {
            this.source = source;
        }

        private void against(int rule, String what, Tree tree) {
            SourcePositions places = source.trees.getSourcePositions();
            found.add("rule " + rule + ", line " + lineOf(places.getStartPosition(source.unit, tree)) + ": " + what);
        }

        private long lineOf(long position) {
            return source.unit.getLineMap().getLineNumber(position);
        }

        private Element meaningOf(Tree tree) {
            return source.trees.getElement(new TreePath(getCurrentPath(), tree));
        }

        private TypeMirror typeOf(Tree tree) {
            return source.trees.getTypeMirror(new TreePath(getCurrentPath(), tree));
        }

        private <T extends Tree> T around(Class<T> kind) {
            TreePath path = getCurrentPath().getParentPath();
            while (path != null && !kind.isInstance(path.getLeaf())) {
                path = path.getParentPath();
            }
            return path == null ? null : kind.cast(path.getLeaf());
        }

        @Override
        public Void visitCompilationUnit(CompilationUnitTree unit, Void none) {
            if (unit.getPackageName() != null || !unit.getImports().isEmpty() || unit.getTypeDecls().size() != 1) {
                against(1, "a package, an import, or more than one class", unit);
            }
            return super.visitCompilationUnit(unit, none);
        }

        @Override
        public Void visitClass(ClassTree type, Void none) {
            Set<Modifier> modifiers = type.getModifiers().getFlags();
            classes++;
            if (classes > MOST_CLASSES) {
                against(11, "too many classes", type);
            }
            if (classes > 1 && !(modifiers.contains(Modifier.STATIC) && modifiers.contains(Modifier.PRIVATE))) {
                against(2, "a class inside that is not private and static", type);
            }
            int fields = 0;
            for (Tree member : type.getMembers()) {
                if (member instanceof BlockTree) {
                    against(5, "an initialiser block", member);
                }
                if (member instanceof VariableTree field) {
                    fields += field.getModifiers().getFlags().contains(Modifier.STATIC) ? 0 : 1;
                }
            }
            if (fields > MOST_FIELDS) {
                against(11, "too many fields", type);
            }
            return super.visitClass(type, none);
        }

        @Override
        public Void visitMethod(MethodTree method, Void none) {
            calls.computeIfAbsent(source.trees.getElement(getCurrentPath()), key -> Set.of());
            if (method.getParameters().size() > MOST_PARAMETERS) {
                against(11, "too many parameters", method);
            }
            SourcePositions places = source.trees.getSourcePositions();
            long first = lineOf(places.getStartPosition(source.unit, method));
            long last = lineOf(places.getEndPosition(source.unit, method));
            if (last - first >= MOST_LINES) {
                against(11, "a long method", method);
            }
            Set<Modifier> modifiers = method.getModifiers().getFlags();
            if (modifiers.contains(Modifier.SYNCHRONIZED) || modifiers.contains(Modifier.NATIVE)) {
                against(6, "a method of another kind", method);
            }
            if (method.getReturnType() != null && !method.getReturnType().toString().equals("void")) {
                lookAtType(method.getReturnType());
            }
            return super.visitMethod(method, none);
        }

        private void lookAtType(Tree tree) {
            String type = String.valueOf(typeOf(tree));
            if (!type.matches(TYPE)) {
                against(3, "the type " + type, tree);
            }
        }

        @Override
        public Void visitVariable(VariableTree variable, Void none) {
            lookAtType(variable.getType());
            VariableElement element = (VariableElement) source.trees.getElement(getCurrentPath());
            if (element.getModifiers().contains(Modifier.STATIC) && element.getConstantValue() == null) {
                against(5, "static, and no constant", variable);
            }
            boolean field = element.getKind() == ElementKind.FIELD;
            if (field && !element.getModifiers().contains(Modifier.PRIVATE)) {
                against(1, "a field in sight", variable);
            }
            return super.visitVariable(variable, none);
        }

        @Override
        public Void visitThrow(ThrowTree thrown, Void none) {
            MethodTree method = around(MethodTree.class);
            if (method == null || method.getReturnType() == null) {
                against(6, "a throw in a constructor", thrown);
            }
            boolean known = thrown.getExpression() instanceof NewClassTree made
                    && EXCEPTIONS.contains(made.getIdentifier().toString())
                    && made.getArguments().size() == 1
                    && made.getArguments().get(0).getKind() == Tree.Kind.STRING_LITERAL;
            if (!known) {
                against(6, "throws something else", thrown);
            }
            return super.visitThrow(thrown, none);
        }

        @Override
        public Void visitNewClass(NewClassTree made, Void none) {
            boolean thrown = getCurrentPath().getParentPath().getLeaf() instanceof ThrowTree;
            if (!thrown && !isMadeAhead()) {
                against(12, "an object made by a call", made);
            }
            if (made.getClassBody() != null) {
                against(2, "a class without a name", made);
            }
            return super.visitNewClass(made, none);
        }

        @Override
        public Void visitNewArray(NewArrayTree made, Void none) {
            if (!isMadeAhead()) {
                against(12, "an array made by a call", made);
            }
            for (ExpressionTree length : made.getDimensions()) {
                lookAtConstant(7, "a length that is no constant", length);
            }
            return super.visitNewArray(made, none);
        }

        /** In a constructor, or where a field begins. */
        private boolean isMadeAhead() {
            MethodTree method = around(MethodTree.class);
            return method == null || method.getReturnType() == null;
        }

        /** A number above none that is known ahead: a constant, or constants put together. */
        private void lookAtConstant(int rule, String what, ExpressionTree tree) {
            if (!isConstant(tree)) {
                against(rule, what, tree);
            }
        }

        private boolean isConstant(Tree tree) {
            if (tree instanceof BinaryTree both) {
                boolean grows = both.getKind() == Tree.Kind.MULTIPLY || both.getKind() == Tree.Kind.PLUS;
                return grows && isConstant(both.getLeftOperand()) && isConstant(both.getRightOperand());
            }
            Object value = tree instanceof LiteralTree literal ? literal.getValue() : null;
            if (tree instanceof IdentifierTree && meaningOf(tree) instanceof VariableElement constant) {
                value = constant.getConstantValue();
            }
            return value instanceof Integer number && number > 0;
        }

        @Override
        public Void visitMethodInvocation(MethodInvocationTree call, Void none) {
            Element called = meaningOf(call);
            Element caller = source.trees.getElement(pathAround(MethodTree.class));
            String owner = called.getEnclosingElement().toString();
            if (called.getSimpleName().contentEquals("<init>")) {
                return super.visitMethodInvocation(call, none);
            }
            if (owner.startsWith("MarkdownPlanner")) {
                TreeSet<Element> all = new TreeSet<>((a, b) -> nameOf(a).compareTo(nameOf(b)));
                all.addAll(calls.getOrDefault(caller, Set.of()));
                all.add(called);
                calls.put(caller, all);
            } else if (!LIBRARY.contains(owner.replace("java.lang.", "") + "." + called.getSimpleName())) {
                against(4, "calls " + owner + "." + called.getSimpleName(), call);
            }
            return super.visitMethodInvocation(call, none);
        }

        private TreePath pathAround(Class<? extends Tree> kind) {
            TreePath path = getCurrentPath();
            while (!kind.isInstance(path.getLeaf())) {
                path = path.getParentPath();
            }
            return path;
        }

        private static String nameOf(Element method) {
            return method.getEnclosingElement() + "." + method;
        }

        @Override
        public Void visitBinary(BinaryTree both, Void none) {
            switch (both.getKind()) {
                case DIVIDE, REMAINDER -> lookAtConstant(7, "a divisor that is no constant", both.getRightOperand());
                case PLUS -> lookAtSum(both);
                default -> { }
            }
            return super.visitBinary(both, none);
        }

        private void lookAtSum(Tree sum) {
            if (String.valueOf(source.trees.getTypeMirror(getCurrentPath())).equals("java.lang.String")) {
                against(10, "texts joined by +", sum);
            }
        }

        @Override
        public Void visitCompoundAssignment(CompoundAssignmentTree change, Void none) {
            switch (change.getKind()) {
                case DIVIDE_ASSIGNMENT, REMAINDER_ASSIGNMENT ->
                        lookAtConstant(7, "a divisor that is no constant", change.getExpression());
                case PLUS_ASSIGNMENT -> lookAtSum(change);
                default -> { }
            }
            return super.visitCompoundAssignment(change, none);
        }

        private void lookAtEnd(ExpressionTree condition, Tree loop) {
            if (condition == null || condition.toString().contains("true")) {
                against(9, "a loop whose end is not seen", loop);
            }
        }

        @Override
        public Void visitForLoop(ForLoopTree loop, Void none) {
            lookAtEnd(loop.getCondition(), loop);
            return super.visitForLoop(loop, none);
        }

        @Override
        public Void visitWhileLoop(WhileLoopTree loop, Void none) {
            lookAtEnd(loop.getCondition(), loop);
            return super.visitWhileLoop(loop, none);
        }

        @Override
        public Void visitDoWhileLoop(DoWhileLoopTree loop, Void none) {
            lookAtEnd(loop.getCondition(), loop);
            return super.visitDoWhileLoop(loop, none);
        }

        @Override
        public Void visitTry(TryTree tried, Void none) {
            against(6, "a try", tried);
            return super.visitTry(tried, none);
        }

        @Override
        public Void visitSynchronized(SynchronizedTree block, Void none) {
            against(6, "synchronized", block);
            return super.visitSynchronized(block, none);
        }

        @Override
        public Void visitAssert(AssertTree claim, Void none) {
            against(6, "an assert", claim);
            return super.visitAssert(claim, none);
        }

        @Override
        public Void visitTypeCast(TypeCastTree cast, Void none) {
            against(6, "a cast", cast);
            return super.visitTypeCast(cast, none);
        }

        @Override
        public Void visitLambdaExpression(LambdaExpressionTree lambda, Void none) {
            against(2, "a lambda", lambda);
            return super.visitLambdaExpression(lambda, none);
        }

        @Override
        public Void visitMemberReference(MemberReferenceTree reference, Void none) {
            against(2, "a method reference", reference);
            return super.visitMemberReference(reference, none);
        }

        void lookAtDepth() {
            for (Element method : List.copyOf(calls.keySet())) {
                int depth = depthFrom(method, 1);
                if (depth > DEEPEST) {
                    found.add("rules 8 and 11: from " + nameOf(method) + " it goes " + depth + " deep");
                }
            }
        }

        /** How many methods stand open at most; a method that calls itself goes deeper than is allowed. */
        private int depthFrom(Element method, int depth) {
            int deepest = depth;
            if (depth <= DEEPEST) {
                for (Element called : calls.getOrDefault(method, Set.of())) {
                    deepest = Math.max(deepest, depthFrom(called, depth + 1));
                }
            }
            return deepest;
        }
    }
}
