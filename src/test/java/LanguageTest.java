import com.sun.source.tree.AssertTree;
import com.sun.source.tree.BinaryTree;
import com.sun.source.tree.BlockTree;
import com.sun.source.tree.ClassTree;
import com.sun.source.tree.CompilationUnitTree;
import com.sun.source.tree.DoWhileLoopTree;
import com.sun.source.tree.ForLoopTree;
import com.sun.source.tree.IdentifierTree;
import com.sun.source.tree.ImportTree;
import com.sun.source.tree.InstanceOfTree;
import com.sun.source.tree.LambdaExpressionTree;
import com.sun.source.tree.LiteralTree;
import com.sun.source.tree.MemberReferenceTree;
import com.sun.source.tree.MethodInvocationTree;
import com.sun.source.tree.MethodTree;
import com.sun.source.tree.NewArrayTree;
import com.sun.source.tree.NewClassTree;
import com.sun.source.tree.SynchronizedTree;
import com.sun.source.tree.ThrowTree;
import com.sun.source.tree.Tree;
import com.sun.source.tree.TryTree;
import com.sun.source.tree.TypeCastTree;
import com.sun.source.tree.VariableTree;
import com.sun.source.tree.WhileLoopTree;
import com.sun.source.util.JavacTask;
import com.sun.source.util.TreePath;
import com.sun.source.util.TreePathScanner;
import com.sun.source.util.Trees;
import java.io.IOException;
import java.nio.file.Files;
import java.nio.file.Path;
import java.util.ArrayDeque;
import java.util.ArrayList;
import java.util.Deque;
import java.util.HashMap;
import java.util.LinkedHashSet;
import java.util.List;
import java.util.Map;
import java.util.Set;
import javax.lang.model.element.Element;
import javax.lang.model.element.ElementKind;
import javax.lang.model.element.ExecutableElement;
import javax.lang.model.element.Modifier;
import javax.lang.model.element.TypeElement;
import javax.lang.model.type.TypeKind;
import javax.lang.model.type.TypeMirror;
import javax.tools.JavaCompiler;
import javax.tools.StandardJavaFileManager;
import javax.tools.ToolProvider;

/**
 * The rules of ../shared/LANGUAGE.md, as far as the source of the class can be read for them. Where the class needs
 * less than a rule allows (no lambda, no try, no loop but "for"), the test holds it to that less.
 */
public final class LanguageTest {
    private static final Check CHECK = new Check("LanguageTest");
    private static final Path SOURCE = Path.of("src/main/java/LevelingNetwork.java");
    private static final int MOST_CLASSES = 12;
    private static final int MOST_FIELDS = 20;
    private static final int MOST_PARAMETERS = 7;
    private static final int MOST_METHOD_LINES = 60;
    private static final int MOST_CALLS_DEEP = 8;

    private static final Set<String> EXCEPTIONS = Set.of("java.lang.IllegalStateException",
            "java.lang.IllegalArgumentException", "java.lang.IndexOutOfBoundsException",
            "java.lang.ArithmeticException", "java.lang.UnsupportedOperationException",
            "java.util.NoSuchElementException");
    private static final Set<String> TYPES = Set.of("java.lang.String", "java.lang.StringBuilder", "java.lang.Math");
    private static final Set<String> LIBRARY = Set.of("java.lang.String.length()", "java.lang.String.charAt(int)",
            "java.lang.StringBuilder.append(char)", "java.lang.StringBuilder.append(java.lang.String)",
            "java.lang.StringBuilder.append(int)", "java.lang.StringBuilder.charAt(int)",
            "java.lang.StringBuilder.length()", "java.lang.StringBuilder.setLength(int)",
            "java.lang.Math.abs(int)", "java.lang.Math.min(int,int)", "java.lang.Math.max(int,int)",
            "java.lang.Math.floorDiv(int,int)", "java.lang.Math.floorMod(int,int)");
    /** charAt and length of a builder are declared above it, and the compiler may name them there. */
    private static final Set<String> INHERITED = Set.of("java.lang.AbstractStringBuilder.charAt(int)",
            "java.lang.AbstractStringBuilder.length()", "java.lang.AbstractStringBuilder.setLength(int)");

    private LanguageTest() {
    }

    public static void main(String[] args) throws IOException {
        Reader reader = read();
        CHECK.dueText("what breaks a rule", String.join("\n", reader.faults), "");
        CHECK.due("methods were read", reader.methods > 64, true);
        CHECK.due("rule 11: " + reader.classes + " classes", reader.classes <= MOST_CLASSES, true);
        for (Element method : reader.entries) {
            int deep = reader.deepestFrom(method, new ArrayDeque<>());
            CHECK.due("rule 11: " + method + " goes " + deep + " calls deep", deep <= MOST_CALLS_DEEP, true);
        }
        CHECK.dueText("rules 8 and 11: what calls itself", reader.recursions.toString(), "[walk]");
        CHECK.due("no package", Files.readString(SOURCE).startsWith("package "), false);
        CHECK.end();
    }

    private static Reader read() throws IOException {
        JavaCompiler compiler = ToolProvider.getSystemJavaCompiler();
        try (StandardJavaFileManager files = compiler.getStandardFileManager(null, null, null)) {
            JavacTask task = (JavacTask) compiler.getTask(null, files, null, List.of("-proc:none"), null,
                    files.getJavaFileObjects(SOURCE));
            List<CompilationUnitTree> units = new ArrayList<>();
            task.parse().forEach(units::add);
            task.analyze();
            Reader reader = new Reader(Trees.instance(task));
            for (CompilationUnitTree unit : units) {
                reader.scan(unit, null);
            }
            return reader;
        }
    }

    /** Goes through the whole source once, and keeps what is against a rule and which method calls which. */
    private static final class Reader extends TreePathScanner<Void, Void> {
        private final Trees trees;
        private final List<String> faults = new ArrayList<>();
        private final Map<Element, Set<Element>> calls = new HashMap<>();
        private final List<Element> entries = new ArrayList<>();
        private final Set<String> recursions = new LinkedHashSet<>();
        private int classes;
        private int methods;

        Reader(Trees trees) {
            this.trees = trees;
        }

        private void fault(String what) {
            CompilationUnitTree unit = getCurrentPath().getCompilationUnit();
            long start = trees.getSourcePositions().getStartPosition(unit, getCurrentPath().getLeaf());
            faults.add("line " + unit.getLineMap().getLineNumber(start) + ": " + what);
        }

        private void need(boolean right, String what) {
            if (!right) {
                fault(what);
            }
        }

        private Element element() {
            return trees.getElement(getCurrentPath());
        }

        private TypeMirror typeOf(Tree tree) {
            return trees.getTypeMirror(new TreePath(getCurrentPath(), tree));
        }

        private boolean isText(Tree tree) {
            TypeMirror type = typeOf(tree);
            return type != null && type.toString().equals("java.lang.String");
        }

        /** The method around the current place, or null in a field's initialiser. */
        private MethodTree method() {
            for (TreePath path = getCurrentPath(); path != null; path = path.getParentPath()) {
                if (path.getLeaf() instanceof MethodTree method) {
                    return method;
                }
            }
            return null;
        }

        private Element methodElement() {
            for (TreePath path = getCurrentPath(); path != null; path = path.getParentPath()) {
                if (path.getLeaf() instanceof MethodTree) {
                    return trees.getElement(path);
                }
            }
            return null;
        }

        private static boolean isConstructor(MethodTree method) {
            return method != null && method.getName().contentEquals("<init>");
        }

        private static String ownerOf(Element element) {
            return ((TypeElement) element.getEnclosingElement()).getQualifiedName().toString();
        }

        private static boolean fromLibrary(String name) {
            return !name.startsWith("LevelingNetwork");
        }

        @Override
        public Void visitImport(ImportTree tree, Void nothing) {
            need(EXCEPTIONS.contains(tree.getQualifiedIdentifier().toString()), "rule 4: " + tree);
            return null;
        }

        @Override
        public Void visitClass(ClassTree tree, Void nothing) {
            classes++;
            Element type = element();
            boolean outermost = getCurrentPath().getParentPath().getLeaf() instanceof CompilationUnitTree;
            need(outermost || type.getModifiers().contains(Modifier.PRIVATE), "rule 1: not private");
            need(outermost || type.getModifiers().contains(Modifier.STATIC), "rule 2: not static");
            need(type.getEnclosingElement().getKind() != ElementKind.METHOD, "rule 2: a class in a method");
            int fields = 0;
            for (Element member : type.getEnclosedElements()) {
                if (member.getKind() == ElementKind.FIELD && !member.getModifiers().contains(Modifier.STATIC)) {
                    fields++;
                }
            }
            need(fields <= MOST_FIELDS, "rule 11: " + fields + " fields");
            return super.visitClass(tree, nothing);
        }

        @Override
        public Void visitVariable(VariableTree tree, Void nothing) {
            Element variable = element();
            if (variable.getKind() == ElementKind.FIELD && variable.getModifiers().contains(Modifier.STATIC)) {
                need(variable.getModifiers().contains(Modifier.FINAL), "rule 5: a static field that is not final");
                boolean kept = tree.getInitializer() instanceof MethodInvocationTree call
                        && call.getMethodSelect().toString().endsWith(".values");
                need(variable.asType().getKind().isPrimitive() || isTextType(variable.asType()) || kept,
                        "rule 5: a static field of the type " + variable.asType());
            }
            return super.visitVariable(tree, nothing);
        }

        private static boolean isTextType(TypeMirror type) {
            return type.toString().equals("java.lang.String");
        }

        @Override
        public Void visitBlock(BlockTree tree, Void nothing) {
            need(!(getCurrentPath().getParentPath().getLeaf() instanceof ClassTree), "rule 5: an initialiser block");
            return super.visitBlock(tree, nothing);
        }

        @Override
        public Void visitMethod(MethodTree tree, Void nothing) {
            methods++;
            Element method = element();
            calls.computeIfAbsent(method, key -> new LinkedHashSet<>());
            if (method.getModifiers().contains(Modifier.PUBLIC)) {
                entries.add(method);
            }
            need(tree.getParameters().size() <= MOST_PARAMETERS, "rule 11: too many parameters");
            CompilationUnitTree unit = getCurrentPath().getCompilationUnit();
            long first = lineAt(unit, trees.getSourcePositions().getStartPosition(unit, tree));
            long last = lineAt(unit, Math.max(0, trees.getSourcePositions().getEndPosition(unit, tree)));
            need(last - first < MOST_METHOD_LINES, "rule 11: " + (last - first + 1) + " lines");
            return super.visitMethod(tree, nothing);
        }

        private static long lineAt(CompilationUnitTree unit, long position) {
            return unit.getLineMap().getLineNumber(position);
        }

        @Override
        public Void visitMethodInvocation(MethodInvocationTree tree, Void nothing) {
            Element called = element();
            String owner = ownerOf(called);
            boolean superConstructor = called.getKind() == ElementKind.CONSTRUCTOR;
            if (superConstructor) {
                return super.visitMethodInvocation(tree, nothing);
            }
            if (fromLibrary(owner)) {
                String name = owner + "." + called;
                need(LIBRARY.contains(name) || INHERITED.contains(name), "rule 4: " + name);
            } else {
                boolean values = called.getSimpleName().contentEquals("values");
                need(!values || method() == null, "rule 12: values() is not kept");
                need(!isConstructor(method()), "rule 12: a constructor that calls " + called);
                addCall(called);
            }
            return super.visitMethodInvocation(tree, nothing);
        }

        private void addCall(Element called) {
            Element caller = methodElement();
            if (caller != null) {
                calls.computeIfAbsent(caller, key -> new LinkedHashSet<>()).add(called);
            }
        }

        @Override
        public Void visitNewClass(NewClassTree tree, Void nothing) {
            String owner = ownerOf(element());
            if (EXCEPTIONS.contains(owner)) {
                need(getCurrentPath().getParentPath().getLeaf() instanceof ThrowTree, "rule 6: not thrown at once");
            } else {
                need(method() == null || isConstructor(method()), "rule 12: made outside a constructor: " + tree);
                need(!fromLibrary(owner) || owner.equals("java.lang.StringBuilder"), "rule 4: new " + owner);
            }
            need(tree.getClassBody() == null, "rule 2: an anonymous class");
            addCall(element());
            return super.visitNewClass(tree, nothing);
        }

        @Override
        public Void visitNewArray(NewArrayTree tree, Void nothing) {
            need(method() == null || isConstructor(method()), "rule 12: made outside a constructor: " + tree);
            return super.visitNewArray(tree, nothing);
        }

        @Override
        public Void visitThrow(ThrowTree tree, Void nothing) {
            boolean right = false;
            if (tree.getExpression() instanceof NewClassTree made) {
                TypeMirror type = typeOf(made);
                List<?> arguments = made.getArguments();
                boolean told = arguments.isEmpty() || arguments.size() == 1 && arguments.get(0) instanceof LiteralTree;
                right = told && type != null && EXCEPTIONS.contains(type.toString());
            }
            need(right, "rule 6: " + tree);
            need(!isConstructor(method()), "rule 6: a throw in a constructor");
            return super.visitThrow(tree, nothing);
        }

        @Override
        public Void visitIdentifier(IdentifierTree tree, Void nothing) {
            Element named = element();
            if (named instanceof TypeElement type) {
                String name = type.getQualifiedName().toString();
                need(!fromLibrary(name) || TYPES.contains(name) || EXCEPTIONS.contains(name), "rule 3: " + name);
            }
            return super.visitIdentifier(tree, nothing);
        }

        @Override
        public Void visitLiteral(LiteralTree tree, Void nothing) {
            String signs = tree.getValue() instanceof String || tree.getValue() instanceof Character
                    ? tree.getValue().toString() : "";
            need(signs.chars().allMatch(sign -> sign >= 1 && sign <= 127), "rule 4: a sign in " + tree);
            return super.visitLiteral(tree, nothing);
        }

        @Override
        public Void visitBinary(BinaryTree tree, Void nothing) {
            boolean texts = isText(tree.getLeftOperand()) || isText(tree.getRightOperand());
            need(!texts, "rules 6 and 10: texts joined or compared by " + tree.getKind());
            if (tree.getKind() == Tree.Kind.REMAINDER) {
                need(typeOf(tree).getKind() == TypeKind.INT, "rule 3: " + tree);
            }
            return super.visitBinary(tree, nothing);
        }

        @Override
        public Void visitForLoop(ForLoopTree tree, Void nothing) {
            need(tree.getCondition() != null && !tree.getUpdate().isEmpty(), "rule 9: the end can't be seen");
            return super.visitForLoop(tree, nothing);
        }

        @Override
        public Void visitWhileLoop(WhileLoopTree tree, Void nothing) {
            fault("rule 9: a while loop");
            return super.visitWhileLoop(tree, nothing);
        }

        @Override
        public Void visitDoWhileLoop(DoWhileLoopTree tree, Void nothing) {
            fault("rule 9: a do loop");
            return super.visitDoWhileLoop(tree, nothing);
        }

        @Override
        public Void visitTypeCast(TypeCastTree tree, Void nothing) {
            need(typeOf(tree.getType()).getKind().isPrimitive(), "rule 6: " + tree);
            return super.visitTypeCast(tree, nothing);
        }

        @Override
        public Void visitLambdaExpression(LambdaExpressionTree tree, Void nothing) {
            fault("rule 2: a lambda");
            return super.visitLambdaExpression(tree, nothing);
        }

        @Override
        public Void visitMemberReference(MemberReferenceTree tree, Void nothing) {
            fault("rule 2: a method reference");
            return super.visitMemberReference(tree, nothing);
        }

        @Override
        public Void visitTry(TryTree tree, Void nothing) {
            fault("rule 6: a try");
            return super.visitTry(tree, nothing);
        }

        @Override
        public Void visitSynchronized(SynchronizedTree tree, Void nothing) {
            fault("rule 6: synchronized");
            return super.visitSynchronized(tree, nothing);
        }

        @Override
        public Void visitAssert(AssertTree tree, Void nothing) {
            fault("rule 6: assert");
            return super.visitAssert(tree, nothing);
        }

        @Override
        public Void visitInstanceOf(InstanceOfTree tree, Void nothing) {
            fault("rule 6: instanceof");
            return super.visitInstanceOf(tree, nothing);
        }

        /** The calls that stand open at once, the first one included; what calls itself counts once. */
        int deepestFrom(Element method, Deque<Element> open) {
            int deepest = 0;
            open.push(method);
            for (Element called : calls.getOrDefault(method, Set.of())) {
                if (open.contains(called)) {
                    recursions.add(called.getSimpleName().toString());
                } else if (called instanceof ExecutableElement) {
                    deepest = Math.max(deepest, deepestFrom(called, open));
                }
            }
            open.pop();
            return deepest + 1;
        }
    }
}
