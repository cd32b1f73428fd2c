import com.sun.source.tree.AssertTree;
import com.sun.source.tree.BinaryTree;
import com.sun.source.tree.BlockTree;
import com.sun.source.tree.ClassTree;
import com.sun.source.tree.CompilationUnitTree;
import com.sun.source.tree.CompoundAssignmentTree;
import com.sun.source.tree.DoWhileLoopTree;
import com.sun.source.tree.ExpressionTree;
import com.sun.source.tree.ForLoopTree;
import com.sun.source.tree.IdentifierTree;
import com.sun.source.tree.ImportTree;
import com.sun.source.tree.InstanceOfTree;
import com.sun.source.tree.LambdaExpressionTree;
import com.sun.source.tree.LiteralTree;
import com.sun.source.tree.MemberReferenceTree;
import com.sun.source.tree.MemberSelectTree;
import com.sun.source.tree.MethodInvocationTree;
import com.sun.source.tree.MethodTree;
import com.sun.source.tree.NewArrayTree;
import com.sun.source.tree.NewClassTree;
import com.sun.source.tree.SynchronizedTree;
import com.sun.source.tree.ThrowTree;
import com.sun.source.tree.Tree;
import com.sun.source.tree.TryTree;
import com.sun.source.tree.TypeCastTree;
import com.sun.source.tree.VariableTree;
import com.sun.source.tree.WhileLoopTree;
import com.sun.source.util.JavacTask;
import com.sun.source.util.SourcePositions;
import com.sun.source.util.TreePath;
import com.sun.source.util.TreePathScanner;
import com.sun.source.util.Trees;
import java.io.File;
import java.io.IOException;
import java.lang.reflect.Array;
import java.lang.reflect.Field;
import java.util.ArrayList;
import java.util.HashMap;
import java.util.HashSet;
import java.util.IdentityHashMap;
import java.util.LinkedHashMap;
import java.util.LinkedHashSet;
import java.util.List;
import java.util.Map;
import java.util.Set;
import javax.lang.model.element.Element;
import javax.lang.model.element.ElementKind;
import javax.lang.model.element.ExecutableElement;
import javax.lang.model.element.Modifier;
import javax.lang.model.element.TypeElement;
import javax.lang.model.type.ArrayType;
import javax.lang.model.type.DeclaredType;
import javax.lang.model.type.TypeKind;
import javax.lang.model.type.TypeMirror;
import javax.tools.JavaCompiler;
import javax.tools.StandardJavaFileManager;
import javax.tools.ToolProvider;

/**
 * The rules of ../shared/LANGUAGE.md, by their numbers, looked up in what javac makes of the file: each rule or part of
 * one that can be seen there. What the class uses of what the rules allow is named here, so that a new use is looked at
 * first; whether a call ever throws (7) is for PolyBenchHolds. Also, what a bench takes of the room of a run (12).
 */
public final class PolyBenchRules {
    private static final String FILE = "src/main/java/PolyBench.java";
    private static final int MOST_PARAMETERS = 7, MOST_LINES = 60, MOST_DEEP = 8, MOST_CLASSES = 12, MOST_FIELDS = 20;
    private static final Set<String> LIBRARY = Set.of("java.lang.String.length", "java.lang.String.charAt",
            "java.lang.Math.max", "java.lang.Math.min", "java.lang.Math.abs", "java.lang.Math.floorMod",
            "java.lang.Math.floorDiv", "java.lang.System.arraycopy");
    private static final Set<TypeKind> PRIMITIVES = Set.of(TypeKind.INT, TypeKind.LONG, TypeKind.SHORT, TypeKind.BYTE,
            TypeKind.CHAR, TypeKind.BOOLEAN);
    // The room of one run holds so many, if it were to make a new object for each of 512 calls.
    private static final int MOST_OBJECTS = 600_000 / 512, MOST_ELEMENTS = 7_300_000 / 512;
    // Calls that make objects: constructors, and these.
    private static final Set<String> MAKERS = Set.of("way");

    private static int wrong = 0;

    private final CompilationUnitTree unit;
    private final Trees trees;
    private final SourcePositions positions;
    private final Map<String, Set<String>> calls = new LinkedHashMap<>();
    private final Set<String> faceNames = new HashSet<>();
    private int classes;
    private int methods;

    private PolyBenchRules(CompilationUnitTree unit, Trees trees) {
        this.unit = unit;
        this.trees = trees;
        positions = trees.getSourcePositions();
    }

    public static void main(String[] args) throws IOException, IllegalAccessException {
        JavaCompiler compiler = ToolProvider.getSystemJavaCompiler();
        try (StandardJavaFileManager files = compiler.getStandardFileManager(null, null, null)) {
            JavacTask task = (JavacTask) compiler.getTask(null, files, null, List.of("-proc:none"), null,
                    files.getJavaFileObjects(new File(FILE)));
            CompilationUnitTree unit = task.parse().iterator().next();
            task.analyze();
            PolyBenchRules rules = new PolyBenchRules(unit, Trees.instance(task));
            rules.look();
            rules.room();
        }
        System.out.println(wrong == 0 ? "all rules are kept" : wrong + " rules are broken");
        if (wrong != 0) {
            System.exit(1);
        }
    }

    private void look() {
        check(1, unit.getPackageName() == null, unit, "a package");
        check(2, unit.getTypeDecls().size() == 1, unit, "one public class is due");
        for (Tree member : ((ClassTree) unit.getTypeDecls().get(0)).getMembers()) {
            if (member instanceof MethodTree && isPublic((MethodTree) member)) {
                faceNames.add(((MethodTree) member).getName().toString());
            }
        }
        new Scanner().scan(unit, null);
        check(11, classes <= MOST_CLASSES, unit, classes + " classes");
        // If these were not found, nothing was looked at.
        check(1, faceNames.size() == 37 && methods > 100 && calls.size() > 100, unit, "what was found of the file");
        depths();
    }

    /** Objects and arrays, fields and elements that a bench with all its WAYS holds. */
    private void room() throws IllegalAccessException {
        PolyBench bench = new PolyBench(0);
        for (int k = 0; k < 8; k++) {
            bench.way(k % 6, k + 1);
        }
        Map<Object, Boolean> seen = new IdentityHashMap<>();
        int elements = held(bench, seen);
        check(12, seen.size() > 1 && seen.size() <= MOST_OBJECTS, unit, "a bench holds " + seen.size() + " objects");
        check(12, elements <= MOST_ELEMENTS, unit, "a bench holds " + elements + " fields and elements");
    }

    private static int held(Object one, Map<Object, Boolean> seen) throws IllegalAccessException {
        if (one == null || one instanceof String || seen.put(one, true) != null) {
            return 0;
        }
        int elements = 0;
        if (one.getClass().isArray()) {
            boolean objects = !one.getClass().getComponentType().isPrimitive();
            for (int i = 0; i < Array.getLength(one); i++) {
                elements += 1 + (objects ? held(Array.get(one, i), seen) : 0);
            }
            return elements;
        }
        for (Field field : one.getClass().getDeclaredFields()) {
            if (!java.lang.reflect.Modifier.isStatic(field.getModifiers())) {
                field.setAccessible(true);
                elements += 1 + (field.getType().isPrimitive() ? 0 : held(field.get(one), seen));
            }
        }
        return elements;
    }

    private static boolean isPublic(MethodTree method) {
        return method.getModifiers().getFlags().contains(Modifier.PUBLIC);
    }

    private void check(int rule, boolean kept, Tree where, String what) {
        if (!kept) {
            wrong++;
            long line = unit.getLineMap().getLineNumber(Math.max(0, positions.getStartPosition(unit, where)));
            System.out.println("rule " + rule + ", line " + line + ": " + what);
        }
    }

    // ---- types

    private static boolean isOwn(TypeMirror type) {
        return type.getKind() == TypeKind.DECLARED && outermost(((DeclaredType) type).asElement()).equals("PolyBench");
    }

    private static String outermost(Element element) {
        Element at = element;
        while (at.getEnclosingElement() != null && at.getEnclosingElement().getKind().isClass()) {
            at = at.getEnclosingElement();
        }
        return at.toString();
    }

    private static boolean isString(TypeMirror type) {
        return type.toString().equals("java.lang.String");
    }

    private static boolean isKnown(TypeMirror type) {
        TypeMirror part = type.getKind() == TypeKind.ARRAY ? ((ArrayType) type).getComponentType() : type;
        if (part.getKind() == TypeKind.ARRAY) {
            return PRIMITIVES.contains(((ArrayType) part).getComponentType().getKind());
        }
        return PRIMITIVES.contains(part.getKind()) || isOwn(part) || type == part && isString(type);
    }

    /** What a static field may be. */
    private static boolean isConstant(TypeMirror type) {
        Set<TypeKind> kinds = Set.of(TypeKind.INT, TypeKind.LONG, TypeKind.BOOLEAN, TypeKind.CHAR);
        return kinds.contains(type.getKind()) || isString(type);
    }

    // ---- which method calls which

    private static String nameOf(ExecutableElement method) {
        return method.getEnclosingElement().getSimpleName() + "." + method;
    }

    /** All methods that can be come to from one. */
    private Set<String> from(String method) {
        Set<String> found = new LinkedHashSet<>();
        List<String> left = new ArrayList<>(calls.getOrDefault(method, Set.of()));
        while (!left.isEmpty()) {
            String one = left.remove(left.size() - 1);
            if (found.add(one)) {
                left.addAll(calls.getOrDefault(one, Set.of()));
            }
        }
        return found;
    }

    /** Methods that call one another count as one; they are those of Grammar, which has a bound of its own. */
    private void depths() {
        Map<String, Set<String>> reached = new HashMap<>();
        for (String method : calls.keySet()) {
            reached.put(method, from(method));
        }
        for (String method : calls.keySet()) {
            boolean again = reached.get(method).contains(method);
            check(8, !again || method.startsWith("Grammar."), unit, method + " calls itself");
        }
        Map<String, Integer> known = new HashMap<>();
        for (String method : calls.keySet()) {
            int deep = depth(method, reached, known);
            check(11, deep <= MOST_DEEP, unit, method + " goes " + deep + " deep");
        }
    }

    private int depth(String method, Map<String, Set<String>> reached, Map<String, Integer> known) {
        if (known.containsKey(method)) {
            return known.get(method);
        }
        Set<String> ring = new LinkedHashSet<>(List.of(method));
        for (String other : reached.getOrDefault(method, Set.of())) {
            if (reached.getOrDefault(other, Set.of()).contains(method)) {
                ring.add(other);
            }
        }
        int most = 0;
        for (String one : ring) {
            for (String next : calls.getOrDefault(one, Set.of())) {
                most = ring.contains(next) ? most : Math.max(most, depth(next, reached, known));
            }
        }
        known.put(method, most + 1);
        return most + 1;
    }

    // ---- the file from its first line to its last

    private final class Scanner extends TreePathScanner<Void, Void> {
        private String inside = "";
        private MethodTree method;

        private TypeMirror type(Tree tree) {
            return trees.getTypeMirror(new TreePath(getCurrentPath(), tree));
        }

        private Element element() {
            return trees.getElement(getCurrentPath());
        }

        private void never(int rule, Tree where) {
            check(rule, false, where, where.getKind() + " is ruled out");
        }

        @Override
        public Void visitImport(ImportTree tree, Void none) {
            never(4, tree);
            return super.visitImport(tree, none);
        }

        @Override
        public Void visitClass(ClassTree tree, Void none) {
            classes++;
            Set<Modifier> flags = tree.getModifiers().getFlags();
            Tree parent = getCurrentPath().getParentPath().getLeaf();
            boolean outer = parent == unit;
            check(2, outer || parent instanceof ClassTree, tree, "a local or anonymous class");
            check(1, outer || !flags.contains(Modifier.PUBLIC) && !flags.contains(Modifier.PROTECTED), tree,
                    "a class inside is private or package-visible");
            check(2, outer || flags.contains(Modifier.STATIC), tree, "a class inside is static");
            check(12, flags.contains(Modifier.FINAL), tree, "a class that another could follow");
            int fields = 0;
            for (Tree member : tree.getMembers()) {
                check(5, !(member instanceof BlockTree), member, "an initialiser block");
                boolean field = member instanceof VariableTree;
                fields += field && !((VariableTree) member).getModifiers().getFlags().contains(Modifier.STATIC) ? 1 : 0;
                if (field) {
                    field((VariableTree) member);
                }
            }
            check(11, fields <= MOST_FIELDS, tree, fields + " fields");
            return super.visitClass(tree, none);
        }

        private void field(VariableTree tree) {
            Set<Modifier> flags = tree.getModifiers().getFlags();
            if (flags.contains(Modifier.STATIC)) {
                check(5, flags.contains(Modifier.FINAL), tree, "a static field is final");
                check(5, isConstant(type(tree)), tree, "a static field of another type");
            }
        }

        @Override
        public Void visitMethod(MethodTree tree, Void none) {
            methods++;
            ExecutableElement own = (ExecutableElement) element();
            inside = nameOf(own);
            method = tree;
            calls.computeIfAbsent(inside, key -> new LinkedHashSet<>());
            long first = unit.getLineMap().getLineNumber(positions.getStartPosition(unit, tree));
            long last = unit.getLineMap().getLineNumber(Math.max(1, positions.getEndPosition(unit, tree)));
            check(11, last - first < MOST_LINES, tree, inside + " has " + (last - first + 1) + " lines");
            check(11, tree.getParameters().size() <= MOST_PARAMETERS, tree, inside + " has too many parameters");
            check(6, tree.getThrows().isEmpty(), tree, inside + " throws");
            String name = tree.getName().toString();
            check(6, !Set.of("equals", "hashCode", "toString").contains(name), tree, "a " + name + " of its own");
            boolean hidden = tree.getModifiers().getFlags().contains(Modifier.PRIVATE);
            check(1, !hidden || name.equals("<init>") || !faceNames.contains(name), tree,
                    inside + " bears the name of a public one");
            TypeMirror answer = own.getReturnType();
            check(3, answer.getKind() == TypeKind.VOID || isKnown(answer), tree, inside + " answers " + answer);
            super.visitMethod(tree, none);
            inside = "";
            method = null;
            return null;
        }

        @Override
        public Void visitVariable(VariableTree tree, Void none) {
            check(3, isKnown(type(tree)), tree, tree.getName() + " is " + type(tree));
            return super.visitVariable(tree, none);
        }

        @Override
        public Void visitMethodInvocation(MethodInvocationTree tree, Void none) {
            Element called = trees.getElement(new TreePath(getCurrentPath(), tree.getMethodSelect()));
            String owner = ((TypeElement) called.getEnclosingElement()).getQualifiedName().toString();
            if (outermost(called).equals("PolyBench")) {
                calls.computeIfAbsent(inside, key -> new LinkedHashSet<>()).add(nameOf((ExecutableElement) called));
            } else if (!called.getSimpleName().contentEquals("<init>")) {
                String name = owner + "." + called.getSimpleName();
                check(4, LIBRARY.contains(name), tree, name + " is not among what is used of the library");
            }
            return super.visitMethodInvocation(tree, none);
        }

        @Override
        public Void visitNewClass(NewClassTree tree, Void none) {
            check(2, tree.getClassBody() == null, tree, "an anonymous class");
            check(4, isOwn(type(tree)), tree, "a new " + type(tree));
            calls.computeIfAbsent(inside, key -> new LinkedHashSet<>()).add(nameOf((ExecutableElement) element()));
            makes(tree);
            return super.visitNewClass(tree, none);
        }

        @Override
        public Void visitNewArray(NewArrayTree tree, Void none) {
            makes(tree);
            return super.visitNewArray(tree, none);
        }

        /** Rows are made in constructors and used again: no call but these makes an object. */
        private void makes(Tree tree) {
            boolean maker = method == null || method.getName().contentEquals("<init>")
                    || MAKERS.contains(method.getName().toString());
            check(12, maker, tree, inside + " makes an object");
        }

        @Override
        public Void visitIdentifier(IdentifierTree tree, Void none) {
            Tree parent = getCurrentPath().getParentPath().getLeaf();
            if (tree.getName().contentEquals("this")) {
                check(12, parent instanceof MemberSelectTree, tree, "an object is handed out");
            }
            ofLibrary(tree);
            return super.visitIdentifier(tree, none);
        }

        @Override
        public Void visitMemberSelect(MemberSelectTree tree, Void none) {
            ofLibrary(tree);
            return super.visitMemberSelect(tree, none);
        }

        private void ofLibrary(ExpressionTree tree) {
            Element named = element();
            boolean field = named != null && (named.getKind() == ElementKind.FIELD
                    || named.getKind() == ElementKind.ENUM_CONSTANT);
            boolean own = !field || named.getSimpleName().contentEquals("length")
                    || Set.of("this", "super").contains(named.getSimpleName().toString())
                    || outermost(named).equals("PolyBench");
            check(4, own, tree, tree + " is a field of the library");
        }

        @Override
        public Void visitBinary(BinaryTree tree, Void none) {
            TypeMirror left = type(tree.getLeftOperand());
            TypeMirror right = type(tree.getRightOperand());
            if (tree.getKind() == Tree.Kind.PLUS) {
                check(10, !isString(left) && !isString(right), tree, "texts joined by +");
            }
            if (tree.getKind() == Tree.Kind.EQUAL_TO || tree.getKind() == Tree.Kind.NOT_EQUAL_TO) {
                check(6, !isString(left) && !isString(right), tree, "two texts by ==");
            }
            if (tree.getKind() == Tree.Kind.DIVIDE || tree.getKind() == Tree.Kind.REMAINDER) {
                divisor(tree, tree.getRightOperand());
            }
            return super.visitBinary(tree, none);
        }

        /** A divisor is a number that is written out, or PRIME, which is never 0. */
        private void divisor(Tree tree, ExpressionTree by) {
            boolean written = by instanceof LiteralTree && !"0".equals(by.toString());
            check(7, written || by.toString().equals("prime"), tree, "a divisor " + by + " that may be 0");
        }

        @Override
        public Void visitCompoundAssignment(CompoundAssignmentTree tree, Void none) {
            check(10, !isString(type(tree.getVariable())), tree, "texts joined by +=");
            if (tree.getKind() == Tree.Kind.DIVIDE_ASSIGNMENT || tree.getKind() == Tree.Kind.REMAINDER_ASSIGNMENT) {
                divisor(tree, tree.getExpression());
            }
            return super.visitCompoundAssignment(tree, none);
        }

        @Override
        public Void visitTypeCast(TypeCastTree tree, Void none) {
            check(6, PRIMITIVES.contains(type(tree.getType()).getKind()), tree, "a cast of an object");
            return super.visitTypeCast(tree, none);
        }

        @Override
        public Void visitLiteral(LiteralTree tree, Void none) {
            if (tree.getValue() instanceof String) {
                for (char sign : ((String) tree.getValue()).toCharArray()) {
                    check(4, sign >= 1 && sign <= 127, tree, "a sign " + (int) sign + " in a text");
                }
            }
            return super.visitLiteral(tree, none);
        }

        private void bounded(Tree loop, ExpressionTree condition) {
            boolean told = condition != null && !condition.toString().replaceAll("[()]", "").equals("true");
            check(9, told, loop, "a loop whose end can't be seen");
        }

        @Override
        public Void visitWhileLoop(WhileLoopTree tree, Void none) {
            bounded(tree, tree.getCondition());
            return super.visitWhileLoop(tree, none);
        }

        @Override
        public Void visitDoWhileLoop(DoWhileLoopTree tree, Void none) {
            bounded(tree, tree.getCondition());
            return super.visitDoWhileLoop(tree, none);
        }

        @Override
        public Void visitForLoop(ForLoopTree tree, Void none) {
            bounded(tree, tree.getCondition());
            return super.visitForLoop(tree, none);
        }

        @Override
        public Void visitLambdaExpression(LambdaExpressionTree tree, Void none) {
            never(2, tree);
            return null;
        }

        @Override
        public Void visitMemberReference(MemberReferenceTree tree, Void none) {
            never(2, tree);
            return null;
        }

        @Override
        public Void visitInstanceOf(InstanceOfTree tree, Void none) {
            check(6, isOwn(type(tree.getType())), tree, "instanceof of another class");
            return super.visitInstanceOf(tree, none);
        }

        @Override
        public Void visitThrow(ThrowTree tree, Void none) {
            never(6, tree);
            return null;
        }

        @Override
        public Void visitTry(TryTree tree, Void none) {
            never(6, tree);
            return null;
        }

        @Override
        public Void visitSynchronized(SynchronizedTree tree, Void none) {
            never(6, tree);
            return null;
        }

        @Override
        public Void visitAssert(AssertTree tree, Void none) {
            never(6, tree);
            return null;
        }
    }
}
