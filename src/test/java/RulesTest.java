import com.sun.source.tree.ArrayAccessTree;
import com.sun.source.tree.BinaryTree;
import com.sun.source.tree.ClassTree;
import com.sun.source.tree.CompilationUnitTree;
import com.sun.source.tree.CompoundAssignmentTree;
import com.sun.source.tree.DoWhileLoopTree;
import com.sun.source.tree.ExpressionTree;
import com.sun.source.tree.ForLoopTree;
import com.sun.source.tree.LiteralTree;
import com.sun.source.tree.MemberSelectTree;
import com.sun.source.tree.MethodInvocationTree;
import com.sun.source.tree.MethodTree;
import com.sun.source.tree.NewArrayTree;
import com.sun.source.tree.NewClassTree;
import com.sun.source.tree.ParenthesizedTree;
import com.sun.source.tree.ThrowTree;
import com.sun.source.tree.Tree;
import com.sun.source.tree.Tree.Kind;
import com.sun.source.tree.TypeCastTree;
import com.sun.source.tree.UnaryTree;
import com.sun.source.tree.VariableTree;
import com.sun.source.tree.WhileLoopTree;
import com.sun.source.util.JavacTask;
import com.sun.source.util.TreePath;
import com.sun.source.util.TreePathScanner;
import com.sun.source.util.TreeScanner;
import com.sun.source.util.Trees;
import java.io.IOException;
import java.net.URI;
import java.nio.file.Files;
import java.nio.file.Path;
import java.util.ArrayList;
import java.util.EnumSet;
import java.util.HashMap;
import java.util.HashSet;
import java.util.LinkedHashSet;
import java.util.List;
import java.util.Map;
import java.util.Set;
import javax.lang.model.element.Element;
import javax.lang.model.element.ElementKind;
import javax.lang.model.element.ExecutableElement;
import javax.lang.model.element.Modifier;
import javax.lang.model.element.TypeElement;
import javax.lang.model.element.VariableElement;
import javax.lang.model.type.DeclaredType;
import javax.lang.model.type.TypeKind;
import javax.lang.model.type.TypeMirror;
import javax.tools.JavaFileObject;
import javax.tools.SimpleJavaFileObject;
import javax.tools.ToolProvider;

/**
 * The rules of LANGUAGE.md that only the compiler's view of the class shows: which library it calls, of
 * which types its names are, how deep its calls go, and that what the machine might refuse (an index, a
 * divisor) is looked at in the method that uses it. It is stricter than the rules where that is simpler.
 */
public final class RulesTest {
    private static final Check CHECK = new Check();

    private static final int MOST_DEEP = 8;
    private static final int MOST_PARAMETERS = 7;
    private static final int MOST_LINES = 60;
    private static final int MOST_CLASSES = 12;
    private static final int MOST_FIELDS = 20;

    /** Rule 4, and the exceptions of rule 6 that the document names. */
    private static final Set<String> LIBRARY = Set.of((
        "String.length String.charAt String.isEmpty String.equals String.indexOf String.substring "
        + "String.toCharArray String.new StringBuilder.new StringBuilder.append StringBuilder.charAt "
        + "StringBuilder.setCharAt StringBuilder.setLength StringBuilder.deleteCharAt StringBuilder.reverse "
        + "StringBuilder.length StringBuilder.toString ArrayList.new ArrayList.add ArrayList.get ArrayList.set "
        + "ArrayList.remove ArrayList.size ArrayList.isEmpty ArrayList.clear List.add List.get List.set "
        + "List.remove List.size List.isEmpty List.clear List.of Integer.compare Integer.max Integer.min "
        + "Integer.bitCount Long.compare Long.max Long.min Long.bitCount Math.max Math.min Math.abs "
        + "Math.floorDiv Math.floorMod System.arraycopy Arrays.copyOf Arrays.copyOfRange Arrays.fill "
        + "Object.new IllegalArgumentException.new IllegalStateException.new IndexOutOfBoundsException.new")
        .split(" "));

    private static final Set<Kind> RULED_OUT = EnumSet.of(Kind.LAMBDA_EXPRESSION, Kind.MEMBER_REFERENCE,
        Kind.SYNCHRONIZED, Kind.ASSERT, Kind.TRY, Kind.ANNOTATION, Kind.RECORD, Kind.INTERSECTION_TYPE,
        Kind.UNION_TYPE, Kind.SWITCH_EXPRESSION, Kind.MODULE, Kind.PACKAGE);

    private static final Set<Kind> COMPARISONS = EnumSet.of(Kind.LESS_THAN, Kind.LESS_THAN_EQUAL,
        Kind.GREATER_THAN, Kind.GREATER_THAN_EQUAL, Kind.EQUAL_TO, Kind.NOT_EQUAL_TO);

    /** What the test must find, each in a class of its own; otherwise it would be worth nothing. */
    private static final String[] FAULTS = {
        "double f(int a) { return Math.sqrt(a); }",
        "int f(int a) { return Math.addExact(a, 1); }",
        "int f(int a) { return Integer.MAX_VALUE; }",
        "long f() { return System.nanoTime(); }",
        "Object held = new Object();",
        "java.util.List<String> held;",
        "int[][][] held;",
        "Object[] held;",
        "static int held = 1;",
        "static final int HELD = Integer.parseInt(\"1\");",
        "static final ArrayList<Integer> HELD = new ArrayList<>();",
        "static { }",
        "int f(int a, int b) { return a / b; }",
        "int f(int a, int b) { return b > 9 ? 1 : a % b; }",
        "int f(int a, int b) { a /= b; return a; }",
        "int f(int a) { return a / 0; }",
        "int[] row = new int[3]; int f(int a) { return row[a]; }",
        "int[] row = new int[3]; int f(int a) { return a < 3 ? row[a] : 0; }",
        "int[] row = new int[3]; int f(int a) { return a >= 0 ? row[a] : 0; }",
        "int[] row = new int[3]; int f(int a) { return row[a + 1]; }",
        "ArrayList<Integer> all = new ArrayList<>(); int f(int a) { return all.get(a); }",
        "int[] f(int a) { return new int[a]; }",
        "int f() { return f(); }",
        "int f() { return g(); } int g() { return f(); }",
        "int a() { return b(); } int b() { return c(); } int c() { return d(); } int d() { return e(); } "
            + "int e() { return f(); } int f() { return g(); } int g() { return h(); } int h() { return i(); } "
            + "int i() { return 0; }",
        "int f(int a, int b, int c, int d, int e, int f, int g, int h) { return 0; }",
        "int f() { while (true) { } }",
        "int f() { for (;;) { } }",
        "void f() { do { } while (true); }",
        "void f(boolean b) { while (b) { } }",
        "Runnable f() { return () -> { }; }",
        "Runnable f() { return this::g; } void g() { }",
        "Runnable f() { return new Runnable() { public void run() { } }; }",
        "int f() { class In { } return 0; }",
        "int f() { try { return 0; } catch (IllegalStateException e) { return 1; } }",
        "synchronized int f() { return 0; }",
        "record Two(int a, int b) { }",
        "class In { }",
        "T() { throw new IllegalStateException(); }",
        "void f() { throw new RuntimeException(); }",
        "String f(int a) { return \"a\" + a; }",
        "boolean f(String a, String b) { return a == b; }",
        "boolean f(Integer a, Integer b) { return a != b; }",
        "static class In { } static class Other extends In { } Other f(In in) { return (Other) in; }",
        "int f(int a) { return switch (a) { case 0 -> 1; default -> 2; }; }"};

    private static final String[] FINE = {
        "int f(int a, int b) { return b == 0 ? 0 : a / b; }",
        "int f(int a) { return a / 7 % 3; }",
        "static final int[] ROW = {1, 2}; int f(int a) { return a >= 0 && a < ROW.length ? ROW[a] : 0; }",
        "int f(int[] row) { int s = 0; for (int k = 0; k < row.length; k++) { s += row[k]; } return s; }",
        "int f(int a) { int k = 0; while (k < a) { k++; } return k; }",
        "int a() { return b(); } int b() { return c(); } int c() { return d(); } int d() { return e(); } "
            + "int e() { return f(); } int f() { return g(); } int g() { return h(); } int h() { return 0; }",
        "void f(boolean b) { if (b) { throw new IllegalStateException(\"so\"); } }",
        "static class In { } static class Other extends In { } "
            + "Other f(In in) { if (in instanceof Other other) { return other; } return null; }",
        "double f(int a) { return (double) a / 2; }"};

    public static void main(String[] args) throws IOException {
        String program = Files.readString(Path.of(args.length > 0 ? args[0] : "src/main/java/AlmanacRoom.java"));
        CHECK.is("what the rules rule out", List.of(), () -> found("AlmanacRoom", program));
        for (String fault : FAULTS) {
            CHECK.is("found: " + fault, true, () -> !found("T", wrapped(fault)).isEmpty());
        }
        for (String fine : FINE) {
            CHECK.is("fine: " + fine, List.of(), () -> found("T", wrapped(fine)));
        }
        CHECK.end("RulesTest");
    }

    private static String wrapped(String members) {
        return "import java.util.ArrayList;\npublic final class T {\n" + members + "\n}\n";
    }

    private static List<String> found(String name, String text) {
        JavaFileObject file = new SimpleJavaFileObject(URI.create("string:///" + name + ".java"),
            JavaFileObject.Kind.SOURCE) {
            @Override
            public CharSequence getCharContent(boolean ignored) {
                return text;
            }
        };
        JavacTask task = (JavacTask) ToolProvider.getSystemJavaCompiler()
            .getTask(null, null, problem -> { }, List.of("-proc:none"), null, List.of(file));
        try {
            CompilationUnitTree unit = task.parse().iterator().next();
            task.analyze();
            Reader reader = new Reader(Trees.instance(task), unit);
            reader.scan(unit, null);
            reader.depths();
            return new ArrayList<>(reader.wrong);
        } catch (IOException e) {
            throw new IllegalStateException(e);
        }
    }

    /** Reads one file and keeps what it finds wrong, each with its line. */
    private static final class Reader extends TreePathScanner<Void, Void> {
        final Set<String> wrong = new LinkedHashSet<>();
        private final Trees trees;
        private final CompilationUnitTree unit;
        private final Map<ExecutableElement, Set<ExecutableElement>> calls = new HashMap<>();
        private final Set<TypeElement> own = new HashSet<>();
        private ExecutableElement open;
        /** In the method that is being read: what is compared, as "text operator", and with what. */
        private Set<String> looked = new HashSet<>();

        Reader(Trees trees, CompilationUnitTree unit) {
            this.trees = trees;
            this.unit = unit;
        }

        private void wrong(Tree at, String what) {
            long place = trees.getSourcePositions().getStartPosition(unit, at);
            wrong.add("line " + unit.getLineMap().getLineNumber(Math.max(place, 0)) + ": " + what);
        }

        @Override
        public Void scan(Tree tree, Void nothing) {
            if (tree != null && RULED_OUT.contains(tree.getKind())) {
                wrong(tree, tree.getKind() + "");
            }
            return super.scan(tree, nothing);
        }

        // ---- classes and their members

        @Override
        public Void visitClass(ClassTree tree, Void nothing) {
            TypeElement type = (TypeElement) trees.getElement(getCurrentPath());
            own.add(type);
            boolean inside = getCurrentPath().getParentPath().getLeaf().getKind() != Kind.COMPILATION_UNIT;
            if (open != null || tree.getSimpleName().length() == 0) {
                wrong(tree, "a local class");
            }
            if (inside && !tree.getModifiers().getFlags().contains(Modifier.STATIC)) {
                wrong(tree, "a class inside that is not static");
            }
            if (own.size() > MOST_CLASSES) {
                wrong(tree, "more than " + MOST_CLASSES + " classes");
            }
            int fields = 0;
            for (Tree member : tree.getMembers()) {
                fields += member instanceof VariableTree field
                    && !field.getModifiers().getFlags().contains(Modifier.STATIC) ? 1 : 0;
                if (member.getKind() == Kind.BLOCK) {
                    wrong(member, "an initialiser block");
                }
            }
            if (fields > MOST_FIELDS) {
                wrong(tree, "more than " + MOST_FIELDS + " fields");
            }
            return super.visitClass(tree, nothing);
        }

        @Override
        public Void visitMethod(MethodTree tree, Void nothing) {
            ExecutableElement before = open;
            Set<String> lookedBefore = looked;
            open = (ExecutableElement) trees.getElement(getCurrentPath());
            calls.put(open, new LinkedHashSet<>());
            looked = new HashSet<>();
            new Looks().scan(tree, null);
            if (tree.getModifiers().getFlags().contains(Modifier.SYNCHRONIZED)) {
                wrong(tree, "synchronized");
            }
            if (tree.getParameters().size() > MOST_PARAMETERS) {
                wrong(tree, "more than " + MOST_PARAMETERS + " parameters");
            }
            if (linesOf(tree) > MOST_LINES) {
                wrong(tree, "more than " + MOST_LINES + " lines");
            }
            if (tree.getReturnType() != null) {
                type(tree, open.getReturnType());
            }
            super.visitMethod(tree, nothing);
            open = before;
            looked = lookedBefore;
            return null;
        }

        private long linesOf(Tree tree) {
            long from = trees.getSourcePositions().getStartPosition(unit, tree);
            long to = trees.getSourcePositions().getEndPosition(unit, tree);
            if (from < 0 || to < 0) {
                return 0;
            }
            return unit.getLineMap().getLineNumber(to) - unit.getLineMap().getLineNumber(from) + 1;
        }

        @Override
        public Void visitVariable(VariableTree tree, Void nothing) {
            VariableElement variable = (VariableElement) trees.getElement(getCurrentPath());
            type(tree, variable.asType());
            if (variable.getKind() == ElementKind.FIELD && variable.getModifiers().contains(Modifier.STATIC)) {
                boolean constant = variable.getConstantValue() != null;
                boolean row = tree.getInitializer() != null && tree.getInitializer().getKind() == Kind.NEW_ARRAY;
                if (!variable.getModifiers().contains(Modifier.FINAL) || !constant && !row) {
                    wrong(tree, "static state: " + tree.getName());
                }
            }
            return super.visitVariable(tree, nothing);
        }

        private void type(Tree at, TypeMirror type) {
            String name = type.toString().replaceFirst("^java\\.lang\\.String$", "String");
            boolean numbers = type.getKind().isPrimitive() || type.getKind() == TypeKind.VOID
                || name.matches("(int|long|short|byte|char|boolean|double|float)(\\[\\]){1,2}");
            String outer = unit.getTypeDecls().get(0) instanceof ClassTree first ? first.getSimpleName() + "" : "";
            String mine = outer + "(\\.\\w+)?";
            boolean known = name.matches(mine + "(\\[\\])?") || name.equals("String")
                || name.matches("java\\.lang\\.(Integer|StringBuilder)")
                || name.matches("java\\.util\\.(ArrayList|List)<(" + mine + "|java\\.lang\\.Integer)>");
            if (!numbers && !known) {
                wrong(at, "a name of the type " + name);
            }
        }

        // ---- what is called and made

        @Override
        public Void visitMethodInvocation(MethodInvocationTree tree, Void nothing) {
            Element called = trees.getElement(new TreePath(getCurrentPath(), tree.getMethodSelect()));
            if (called instanceof ExecutableElement method) {
                called(tree, method);
            }
            if (called != null && called.getSimpleName().contentEquals("get") && tree.getArguments().size() == 1) {
                index(tree, tree.getArguments().get(0));
            }
            return super.visitMethodInvocation(tree, nothing);
        }

        @Override
        public Void visitNewClass(NewClassTree tree, Void nothing) {
            if (trees.getElement(getCurrentPath()) instanceof ExecutableElement made) {
                called(tree, made);
            }
            return super.visitNewClass(tree, nothing);
        }

        private void called(Tree at, ExecutableElement method) {
            TypeElement of = (TypeElement) method.getEnclosingElement();
            if (isOwn(of)) {
                if (open != null) {
                    calls.get(open).add(method);
                }
                return;
            }
            String name = method.getKind() == ElementKind.CONSTRUCTOR ? "new" : method.getSimpleName() + "";
            if (!LIBRARY.contains(of.getSimpleName() + "." + name)) {
                wrong(at, "a call of " + of + "." + name);
            }
        }

        private boolean isOwn(TypeElement type) {
            Element outermost = type;
            while (outermost.getEnclosingElement() instanceof TypeElement outer) {
                outermost = outer;
            }
            return unit.getTypeDecls().get(0) instanceof ClassTree first
                && outermost.getSimpleName().contentEquals(first.getSimpleName());
        }

        @Override
        public Void visitMemberSelect(MemberSelectTree tree, Void nothing) {
            Element element = trees.getElement(getCurrentPath());
            TypeMirror of = typeOf(tree.getExpression());
            boolean ofRow = of != null && of.getKind() == TypeKind.ARRAY;
            if (!ofRow && element != null && element.getKind() == ElementKind.FIELD
                && element.getEnclosingElement() instanceof TypeElement holder && !isOwn(holder)) {
                wrong(tree, "a field of the library: " + tree);
            }
            return super.visitMemberSelect(tree, nothing);
        }

        @Override
        public Void visitThrow(ThrowTree tree, Void nothing) {
            if (open == null || open.getKind() == ElementKind.CONSTRUCTOR) {
                wrong(tree, "a throw in a constructor");
            }
            return super.visitThrow(tree, nothing);
        }

        @Override
        public Void visitTypeCast(TypeCastTree tree, Void nothing) {
            TypeMirror to = trees.getTypeMirror(new TreePath(getCurrentPath(), tree.getType()));
            if (to != null && !to.getKind().isPrimitive()) {
                wrong(tree, "a cast of an object");
            }
            return super.visitTypeCast(tree, nothing);
        }

        // ---- what the machine might refuse

        @Override
        public Void visitBinary(BinaryTree tree, Void nothing) {
            TypeMirror left = typeOf(tree.getLeftOperand());
            TypeMirror right = typeOf(tree.getRightOperand());
            switch (tree.getKind()) {
                case DIVIDE: case REMAINDER:
                    divisor(tree, tree.getRightOperand());
                    break;
                case PLUS:
                    if (isText(left) || isText(right)) {
                        wrong(tree, "texts joined by +");
                    }
                    break;
                case EQUAL_TO: case NOT_EQUAL_TO:
                    if (isText(left) && isText(right) || isInteger(left) && isInteger(right)) {
                        wrong(tree, "texts or Integers compared by themselves");
                    }
                    break;
                default:
            }
            return super.visitBinary(tree, nothing);
        }

        @Override
        public Void visitCompoundAssignment(CompoundAssignmentTree tree, Void nothing) {
            if (tree.getKind() == Kind.DIVIDE_ASSIGNMENT || tree.getKind() == Kind.REMAINDER_ASSIGNMENT) {
                divisor(tree, tree.getExpression());
            }
            if (tree.getKind() == Kind.PLUS_ASSIGNMENT && isText(typeOf(tree.getVariable()))) {
                wrong(tree, "texts joined by +=");
            }
            return super.visitCompoundAssignment(tree, nothing);
        }

        private TypeMirror typeOf(ExpressionTree tree) {
            return trees.getTypeMirror(new TreePath(getCurrentPath(), tree));
        }

        private static boolean isText(TypeMirror type) {
            return type != null && type.toString().equals("java.lang.String");
        }

        private static boolean isInteger(TypeMirror type) {
            return type != null && type.toString().equals("java.lang.Integer");
        }

        /** A number or a constant that is not 0; or what is compared with 0, or checked, in the same method. */
        private void divisor(Tree at, ExpressionTree tree) {
            Object constant = constantOf(tree);
            boolean fine = constant != null ? ((Number) constant).doubleValue() != 0
                : looked.contains(tree + " == 0") || looked.contains("checked " + tree);
            if (!fine) {
                wrong(at, "a divisor that is not looked at: " + tree);
            }
        }

        private Object constantOf(ExpressionTree tree) {
            if (tree instanceof LiteralTree literal) {
                return literal.getValue();
            }
            Element element = trees.getElement(new TreePath(getCurrentPath(), tree));
            return element instanceof VariableElement variable ? variable.getConstantValue() : null;
        }

        @Override
        public Void visitArrayAccess(ArrayAccessTree tree, Void nothing) {
            index(tree, tree.getIndex());
            return super.visitArrayAccess(tree, nothing);
        }

        /** Compared below with some end, and above with 0, or counted from 0 on. */
        private void index(Tree at, ExpressionTree tree) {
            if (!looked.contains(tree + " below") || !looked.contains(tree + " above")) {
                wrong(at, "an index that is not looked at: " + tree);
            }
        }

        @Override
        public Void visitNewArray(NewArrayTree tree, Void nothing) {
            for (ExpressionTree length : tree.getDimensions()) {
                if (!(constantOf(length) instanceof Integer number) || number < 0) {
                    wrong(tree, "a length that is no constant: " + length);
                }
            }
            return super.visitNewArray(tree, nothing);
        }

        // ---- loops

        @Override
        public Void visitForLoop(ForLoopTree tree, Void nothing) {
            if (tree.getCondition() == null || tree.getUpdate().isEmpty()) {
                wrong(tree, "a for without an end");
            }
            return super.visitForLoop(tree, nothing);
        }

        @Override
        public Void visitWhileLoop(WhileLoopTree tree, Void nothing) {
            if (!countsInside(tree.getCondition(), tree.getStatement())) {
                wrong(tree, "a while that counts nothing");
            }
            return super.visitWhileLoop(tree, nothing);
        }

        @Override
        public Void visitDoWhileLoop(DoWhileLoopTree tree, Void nothing) {
            if (!countsInside(tree.getCondition(), tree.getStatement())) {
                wrong(tree, "a do that counts nothing");
            }
            return super.visitDoWhileLoop(tree, nothing);
        }

        /** Something that is compared with a bound in the condition is counted up in the body. */
        private boolean countsInside(ExpressionTree condition, Tree body) {
            Set<String> counted = new HashSet<>();
            new TreePathScanner<Void, Void>() {
                @Override
                public Void visitUnary(UnaryTree tree, Void nothing) {
                    if (tree.getKind() == Kind.POSTFIX_INCREMENT) {
                        counted.add(tree.getExpression() + "");
                    }
                    return super.visitUnary(tree, nothing);
                }
            }.scan(new TreePath(getCurrentPath(), body), null);
            Tree bare = condition;
            while (bare instanceof ParenthesizedTree inner) {
                bare = inner.getExpression();
            }
            while (bare instanceof BinaryTree both && both.getKind() == Kind.CONDITIONAL_AND) {
                bare = both.getLeftOperand();
            }
            return bare instanceof BinaryTree compared && compared.getKind() == Kind.LESS_THAN
                && counted.contains(compared.getLeftOperand() + "");
        }

        /** What the method that is being read compares, counts from 0 on, or hands to a check of its own. */
        private final class Looks extends TreeScanner<Void, Void> {
            @Override
            public Void visitBinary(BinaryTree tree, Void nothing) {
                String left = tree.getLeftOperand() + "";
                if (COMPARISONS.contains(tree.getKind())) {
                    boolean zero = tree.getRightOperand().toString().equals("0");
                    if (zero && (tree.getKind() == Kind.EQUAL_TO || tree.getKind() == Kind.NOT_EQUAL_TO)) {
                        looked.add(left + " == 0");
                    }
                    if (zero && (tree.getKind() == Kind.LESS_THAN || tree.getKind() == Kind.GREATER_THAN_EQUAL)) {
                        looked.add(left + " above");
                    }
                    if (!zero && (tree.getKind() == Kind.LESS_THAN || tree.getKind() == Kind.GREATER_THAN_EQUAL)) {
                        looked.add(left + " below");
                    }
                }
                return super.visitBinary(tree, nothing);
            }

            @Override
            public Void visitForLoop(ForLoopTree tree, Void nothing) {
                for (Tree first : tree.getInitializer()) {
                    if (first instanceof VariableTree counter && "0".equals(counter.getInitializer() + "")) {
                        looked.add(counter.getName() + " above");
                    }
                }
                return super.visitForLoop(tree, nothing);
            }

            @Override
            public Void visitMethodInvocation(MethodInvocationTree tree, Void nothing) {
                if (tree.getMethodSelect().toString().startsWith("check")) {
                    for (ExpressionTree argument : tree.getArguments()) {
                        looked.add("checked " + argument);
                    }
                }
                return super.visitMethodInvocation(tree, nothing);
            }
        }

        // ---- how deep the calls go

        void depths() {
            for (ExecutableElement method : calls.keySet()) {
                int deep = depth(method, new ArrayList<>());
                if (deep > MOST_DEEP) {
                    wrong.add(method + " is " + deep + " deep");
                }
            }
        }

        /** How many methods stand open at once at the most, this one counted. */
        private int depth(ExecutableElement method, List<ExecutableElement> above) {
            if (above.contains(method)) {
                wrong.add(method + " calls itself");
                return 0;
            }
            above.add(method);
            int most = 0;
            for (ExecutableElement called : calls.getOrDefault(method, Set.of())) {
                for (ExecutableElement target : targets(called)) {
                    most = Math.max(most, depth(target, above));
                }
            }
            above.remove(above.size() - 1);
            return most + 1;
        }

        /** The method itself, and all that may stand in its place. */
        private List<ExecutableElement> targets(ExecutableElement called) {
            List<ExecutableElement> all = new ArrayList<>();
            all.add(called);
            for (ExecutableElement other : calls.keySet()) {
                boolean same = other != called && called.getKind() == ElementKind.METHOD
                    && other.toString().equals(called.toString());
                if (same && isBelow((TypeElement) other.getEnclosingElement(), called.getEnclosingElement())) {
                    all.add(other);
                }
            }
            return all;
        }

        private static boolean isBelow(TypeElement type, Element above) {
            TypeMirror at = type.getSuperclass();
            return at instanceof DeclaredType declared
                && declared.asElement() instanceof TypeElement next
                && (next.equals(above) || isBelow(next, above));
        }
    }
}
