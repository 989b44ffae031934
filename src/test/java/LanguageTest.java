import com.sun.source.tree.AssertTree;
import com.sun.source.tree.BinaryTree;
import com.sun.source.tree.BlockTree;
import com.sun.source.tree.CatchTree;
import com.sun.source.tree.ClassTree;
import com.sun.source.tree.CompilationUnitTree;
import com.sun.source.tree.CompoundAssignmentTree;
import com.sun.source.tree.DoWhileLoopTree;
import com.sun.source.tree.ExpressionTree;
import com.sun.source.tree.ForLoopTree;
import com.sun.source.tree.LambdaExpressionTree;
import com.sun.source.tree.LiteralTree;
import com.sun.source.tree.MemberReferenceTree;
import com.sun.source.tree.MethodInvocationTree;
import com.sun.source.tree.MethodTree;
import com.sun.source.tree.NewClassTree;
import com.sun.source.tree.SwitchTree;
import com.sun.source.tree.SynchronizedTree;
import com.sun.source.tree.ThrowTree;
import com.sun.source.tree.Tree;
import com.sun.source.tree.TryTree;
import com.sun.source.tree.VariableTree;
import com.sun.source.tree.WhileLoopTree;
import com.sun.source.util.JavacTask;
import com.sun.source.util.TreePath;
import com.sun.source.util.TreePathScanner;
import com.sun.source.util.Trees;
import java.io.File;
import java.io.IOException;
import java.nio.charset.StandardCharsets;
import java.nio.file.Files;
import java.util.ArrayDeque;
import java.util.ArrayList;
import java.util.Deque;
import java.util.HashMap;
import java.util.HashSet;
import java.util.LinkedHashSet;
import java.util.List;
import java.util.Map;
import java.util.Set;
import javax.lang.model.element.Element;
import javax.lang.model.element.ElementKind;
import javax.lang.model.element.ExecutableElement;
import javax.lang.model.element.Modifier;
import javax.lang.model.type.TypeMirror;
import javax.tools.JavaCompiler;
import javax.tools.StandardJavaFileManager;
import javax.tools.ToolProvider;

/**
 * The rules of ../shared/LANGUAGE.md, as far as javac's tree of the program tells them; a row begins with the rule's
 * number. Rules 7, 9 and 12 need a reader: of them only loops without a condition are seen here.
 */
final class LanguageTest {
    private static final String PROGRAM = "src/main/java/WhiteclothTable.java";
    private static final int MOST_LINES = 60;
    private static final int MOST_PARAMETERS = 7;
    private static final int MOST_CLASSES = 12;
    private static final int MOST_FIELDS = 20;
    private static final int DEEPEST = 8;
    private static final Set<String> NUMBERS =
            Set.of("int", "long", "short", "byte", "char", "boolean", "double", "float");
    private static final Set<String> TEXTS =
            Set.of("java.lang.String", "java.lang.StringBuilder", "java.lang.Integer");
    private static final Set<String> CONSTANTS = Set.of("int", "long", "boolean", "char", "java.lang.String",
            "int[]", "long[]", "char[]", "byte[]");
    private static final Set<String> EXCEPTIONS = Set.of("java.lang.IllegalStateException",
            "java.lang.IllegalArgumentException", "java.lang.IndexOutOfBoundsException",
            "java.lang.ArithmeticException", "java.lang.UnsupportedOperationException",
            "java.util.NoSuchElementException", "java.lang.RuntimeException");
    /** What rule 4 lists; the functions of Integer, Long and Math stand in isOfTheLibrary(). */
    private static final Set<String> LIBRARY = Set.of("Object()", "String(char[])", "String.length()",
            "String.charAt(int)", "String.isEmpty()", "String.equals(java.lang.Object)", "String.indexOf(int)",
            "String.substring(int)", "String.substring(int,int)", "String.toCharArray()", "StringBuilder()",
            "StringBuilder.append(char)", "StringBuilder.append(java.lang.String)", "StringBuilder.append(int)",
            "StringBuilder.charAt(int)", "StringBuilder.setCharAt(int,char)", "StringBuilder.setLength(int)",
            "StringBuilder.deleteCharAt(int)", "StringBuilder.reverse()", "StringBuilder.length()",
            "StringBuilder.toString()", "ArrayList()", "ArrayList.add(E)", "ArrayList.add(int,E)",
            "ArrayList.get(int)", "ArrayList.set(int,E)", "ArrayList.remove(int)", "ArrayList.size()",
            "ArrayList.isEmpty()", "ArrayList.clear()", "List.add(E)", "List.add(int,E)", "List.get(int)",
            "List.set(int,E)", "List.remove(int)", "List.size()", "List.isEmpty()", "List.clear()",
            "System.arraycopy(java.lang.Object,int,java.lang.Object,int,int)");

    private final CompilationUnitTree unit;
    private final Trees trees;
    private final Set<String> methodsOfTheFace = new HashSet<>();
    private final Map<String, Set<String>> calls = new HashMap<>();
    private int classes = 0;

    private LanguageTest(CompilationUnitTree unit, Trees trees) {
        this.unit = unit;
        this.trees = trees;
    }

    public static void main(String[] args) throws IOException {
        File program = new File(args.length > 0 ? args[0] : PROGRAM);
        String text = Files.readString(program.toPath(), StandardCharsets.ISO_8859_1);
        Check.yes("3: signs of 0 to 127 alone", text.chars().allMatch(sign -> sign < 128));
        JavaCompiler compiler = ToolProvider.getSystemJavaCompiler();
        StandardJavaFileManager files = compiler.getStandardFileManager(null, null, null);
        JavacTask task = (JavacTask) compiler.getTask(null, files, null, List.of("-proc:none", "--release", "17"),
                null, files.getJavaFileObjects(program));
        CompilationUnitTree unit = task.parse().iterator().next();
        task.analyze();
        new LanguageTest(unit, Trees.instance(task)).all();
        Check.end("LanguageTest");
    }

    private void all() {
        Check.yes("1: no package", unit.getPackageName() == null);
        Check.same("1: classes that stand by themselves", unit.getTypeDecls().size(), 1);
        ClassTree face = (ClassTree) unit.getTypeDecls().get(0);
        for (Tree member : face.getMembers()) {
            if (member instanceof MethodTree method && method.getModifiers().getFlags().contains(Modifier.PUBLIC)) {
                methodsOfTheFace.add(method.getName().toString());
            }
        }
        new Rules().scan(unit, null);
        Check.yes("11: classes, " + classes + " of " + MOST_CLASSES, classes <= MOST_CLASSES);
        for (String method : calls.keySet()) {
            int depth = depthBelow(method, new ArrayDeque<>());
            Check.yes("11: calls below " + method + " go " + depth + " deep", depth <= DEEPEST);
        }
    }

    /** The program has no recursion; one that comes into it is to be looked at by rule 8, and then told here. */
    private int depthBelow(String method, Deque<String> open) {
        if (open.contains(method)) {
            Check.yes("8: " + method + " is recursive", false);
            return 0;
        }
        open.push(method);
        int deepest = 0;
        for (String called : calls.getOrDefault(method, Set.of())) {
            deepest = Math.max(deepest, depthBelow(called, open));
        }
        open.pop();
        return deepest + 1;
    }

    private final class Rules extends TreePathScanner<Void, Void> {
        private String where(Tree tree) {
            long start = trees.getSourcePositions().getStartPosition(unit, tree);
            return " in line " + unit.getLineMap().getLineNumber(start);
        }

        private void never(String rule, Tree tree) {
            Check.yes(rule + where(tree), false);
        }

        private Element element(Tree tree) {
            return trees.getElement(TreePath.getPath(unit, tree));
        }

        private String typeOf(Tree tree) {
            TypeMirror type = trees.getTypeMirror(TreePath.getPath(unit, tree));
            return type == null ? "" : type.toString();
        }

        @Override
        public Void visitClass(ClassTree tree, Void none) {
            classes++;
            Set<Modifier> flags = tree.getModifiers().getFlags();
            boolean isFace = getCurrentPath().getParentPath().getLeaf() == unit;
            Check.same("1: open or not, " + tree.getSimpleName(),
                    flags.contains(Modifier.PUBLIC) || flags.contains(Modifier.PROTECTED) ? 1 : 0, isFace ? 1 : 0);
            int fields = 0;
            for (Tree member : tree.getMembers()) {
                if (member instanceof VariableTree field) {
                    fields += isConstant(field) ? 0 : 1;
                }
                if (member instanceof BlockTree block && block.isStatic()) {
                    never("5: a static block", member);
                }
            }
            Check.yes("11: fields of " + tree.getSimpleName() + ", " + fields, fields <= MOST_FIELDS);
            return super.visitClass(tree, none);
        }

        private boolean isConstant(VariableTree field) {
            Set<Modifier> flags = field.getModifiers().getFlags();
            if (!flags.contains(Modifier.STATIC)) {
                return false;
            }
            Check.yes("5: " + field.getName() + " is final", flags.contains(Modifier.FINAL));
            Check.yes("5: the type of " + field.getName(), CONSTANTS.contains(typeOf(field)));
            return true;
        }

        @Override
        public Void visitMethod(MethodTree tree, Void none) {
            String name = tree.getName().toString();
            long start = trees.getSourcePositions().getStartPosition(unit, tree);
            long end = trees.getSourcePositions().getEndPosition(unit, tree);
            boolean isWritten = end > start;
            if (isWritten) {
                long lines = 1 + unit.getLineMap().getLineNumber(end) - unit.getLineMap().getLineNumber(start);
                Check.yes("11: lines of " + name + ", " + lines, lines <= MOST_LINES);
            }
            Check.yes("11: parameters of " + name, tree.getParameters().size() <= MOST_PARAMETERS);
            boolean isConstructor = tree.getReturnType() == null;
            if (!isConstructor && !tree.getModifiers().getFlags().contains(Modifier.PUBLIC)) {
                Check.no("1: " + name + " is a name of the face", methodsOfTheFace.contains(name));
            }
            Check.no("6: " + name + " is synchronized",
                    tree.getModifiers().getFlags().contains(Modifier.SYNCHRONIZED));
            return super.visitMethod(tree, none);
        }

        @Override
        public Void visitVariable(VariableTree tree, Void none) {
            Check.yes("3: the type of " + tree.getName() + where(tree), isAllowed(typeOf(tree)));
            return super.visitVariable(tree, none);
        }

        private boolean isAllowed(String type) {
            if (type.endsWith("[][]")) {
                return NUMBERS.contains(type.substring(0, type.length() - 4));
            }
            if (type.endsWith("[]")) {
                String of = type.substring(0, type.length() - 2);
                return NUMBERS.contains(of) || isOwn(of);
            }
            if (type.startsWith("java.util.ArrayList<") || type.startsWith("java.util.List<")) {
                String of = type.substring(type.indexOf('<') + 1, type.length() - 1);
                return isOwn(of) || of.equals("java.lang.Integer");
            }
            return NUMBERS.contains(type) || TEXTS.contains(type) || EXCEPTIONS.contains(type) || isOwn(type);
        }

        private boolean isOwn(String type) {
            return type.equals("WhiteclothTable") || type.startsWith("WhiteclothTable.");
        }

        @Override
        public Void visitMethodInvocation(MethodInvocationTree tree, Void none) {
            called(tree);
            return super.visitMethodInvocation(tree, none);
        }

        @Override
        public Void visitNewClass(NewClassTree tree, Void none) {
            called(tree);
            return super.visitNewClass(tree, none);
        }

        private void called(Tree tree) {
            ExecutableElement method = (ExecutableElement) element(tree);
            String owner = method.getEnclosingElement().toString();
            if (isOwn(owner)) {
                calls.computeIfAbsent(caller(), k -> new LinkedHashSet<>()).add(owner + "." + method);
                return;
            }
            boolean isException = method.getKind() == ElementKind.CONSTRUCTOR && EXCEPTIONS.contains(owner);
            Check.yes("4: " + owner + "." + method + where(tree), isException || isOfTheLibrary(owner, method));
        }

        /** The method or the class around what is being looked at. */
        private Tree around() {
            TreePath path = getCurrentPath();
            while (!(path.getLeaf() instanceof MethodTree) && !(path.getLeaf() instanceof ClassTree)) {
                path = path.getParentPath();
            }
            return path.getLeaf();
        }

        private String caller() {
            Element method = element(around());
            return method.getEnclosingElement() + "." + method;
        }

        private boolean isOfTheLibrary(String owner, ExecutableElement method) {
            String name = method.getSimpleName().toString();
            String parameters = method.toString().substring(method.toString().indexOf('('));
            String plain = owner.substring(owner.lastIndexOf('.') + 1);
            if (Set.of("java.lang.Integer", "java.lang.Long", "java.lang.Math").contains(owner)) {
                return method.getModifiers().contains(Modifier.STATIC) && !name.endsWith("Exact")
                        && !name.equals("random") && !parameters.contains("double") && !parameters.contains("float")
                        && !parameters.contains("String");
            }
            if (owner.equals("java.util.Arrays")) {
                return Set.of("copyOf", "copyOfRange", "fill").contains(name) && !parameters.contains("Object");
            }
            boolean isMaker = method.getKind() == ElementKind.CONSTRUCTOR;
            return LIBRARY.contains(isMaker ? plain + parameters : plain + "." + name + parameters)
                    || owner.equals("Array") && name.equals("clone");
        }

        @Override
        public Void visitThrow(ThrowTree tree, Void none) {
            boolean isNew = tree.getExpression() instanceof NewClassTree;
            Check.yes("6: throw new" + where(tree), isNew);
            if (isNew) {
                List<? extends ExpressionTree> texts = ((NewClassTree) tree.getExpression()).getArguments();
                Check.yes("6: a written text" + where(tree),
                        texts.isEmpty() || texts.size() == 1 && texts.get(0) instanceof LiteralTree);
                Check.yes("6: which exception" + where(tree), EXCEPTIONS.contains(typeOf(tree.getExpression())));
            }
            Check.no("6: a throw in a constructor" + where(tree), around() instanceof MethodTree method
                    && method.getReturnType() == null);
            return super.visitThrow(tree, none);
        }

        @Override
        public Void visitTry(TryTree tree, Void none) {
            Check.yes("6: no finally, no resources" + where(tree),
                    tree.getFinallyBlock() == null && tree.getResources().isEmpty());
            return super.visitTry(tree, none);
        }

        /** The machine throws IndexOutOfBoundsException and ArithmeticException too: a catch of them is to be read. */
        @Override
        public Void visitCatch(CatchTree tree, Void none) {
            Check.yes("6: which exception is caught" + where(tree), EXCEPTIONS.contains(typeOf(tree.getParameter()))
                    && !typeOf(tree.getParameter()).equals("java.lang.RuntimeException"));
            return super.visitCatch(tree, none);
        }

        @Override
        public Void visitBinary(BinaryTree tree, Void none) {
            String left = typeOf(tree.getLeftOperand());
            String right = typeOf(tree.getRightOperand());
            boolean isText = left.equals("java.lang.String") || right.equals("java.lang.String");
            Check.no("10: texts joined by +" + where(tree), tree.getKind() == Tree.Kind.PLUS && isText);
            boolean isSame = tree.getKind() == Tree.Kind.EQUAL_TO || tree.getKind() == Tree.Kind.NOT_EQUAL_TO;
            Check.no("6: texts or Integers told apart by ==" + where(tree),
                    isSame && left.equals(right) && TEXTS.contains(left));
            return super.visitBinary(tree, none);
        }

        @Override
        public Void visitCompoundAssignment(CompoundAssignmentTree tree, Void none) {
            Check.no("10: texts joined by +=" + where(tree), typeOf(tree.getVariable()).equals("java.lang.String"));
            return super.visitCompoundAssignment(tree, none);
        }

        @Override
        public Void visitSwitch(SwitchTree tree, Void none) {
            Check.no("10: a switch on texts" + where(tree), typeOf(tree.getExpression()).equals("java.lang.String"));
            return super.visitSwitch(tree, none);
        }

        @Override
        public Void visitForLoop(ForLoopTree tree, Void none) {
            Check.yes("9: a for has a condition" + where(tree), tree.getCondition() != null);
            return super.visitForLoop(tree, none);
        }

        @Override
        public Void visitWhileLoop(WhileLoopTree tree, Void none) {
            Check.no("9: while (true)" + where(tree), tree.getCondition().toString().equals("(true)"));
            return super.visitWhileLoop(tree, none);
        }

        @Override
        public Void visitDoWhileLoop(DoWhileLoopTree tree, Void none) {
            Check.no("9: do while (true)" + where(tree), tree.getCondition().toString().equals("(true)"));
            return super.visitDoWhileLoop(tree, none);
        }

        @Override
        public Void visitLambdaExpression(LambdaExpressionTree tree, Void none) {
            never("2: a lambda", tree);
            return super.visitLambdaExpression(tree, none);
        }

        @Override
        public Void visitMemberReference(MemberReferenceTree tree, Void none) {
            never("2: a method reference", tree);
            return super.visitMemberReference(tree, none);
        }

        @Override
        public Void visitSynchronized(SynchronizedTree tree, Void none) {
            never("6: synchronized", tree);
            return super.visitSynchronized(tree, none);
        }

        @Override
        public Void visitAssert(AssertTree tree, Void none) {
            never("6: assert", tree);
            return super.visitAssert(tree, none);
        }
    }
}
