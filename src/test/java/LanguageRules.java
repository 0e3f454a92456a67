import com.sun.source.tree.*;
import com.sun.source.util.*;
import java.nio.file.*;
import java.util.*;
import javax.lang.model.element.*;
import javax.lang.model.type.*;
import javax.tools.*;

/** Checks what can be checked of the rules of LANGUAGE.md on the source of the program. */
public final class LanguageRules {
    private static final String PROGRAM = "src/main/java/ObjectHouse.java";
    private static final int MOST_LINES = 60;
    private static final int MOST_PARAMETERS = 7;
    private static final int MOST_CLASSES = 12;
    private static final int MOST_FIELDS = 20;
    private static final int MOST_CALLS = 8;
    private static final Set<String> FACE = Set.of(("feed end declare place kind kinds fits fields field named begin use view keep clash drop newest make "
        + "argument record array text constant kindOf size letter get put element set code copy cloned root rootAt alive call answered ask answer "
        + "answerKind steps range found write at read same patch row apply sweep logged logAt poke crash reopen").split(" "));
    private static final Set<String> LIBRARY = Set.of("String.length", "String.charAt", "String.isEmpty", "String.equals", "String.indexOf",
        "String.substring", "String.toCharArray", "Math.min", "Math.max", "Math.abs", "Integer.bitCount", "Long.compare", "Long.rotateLeft",
        "System.arraycopy", "Arrays.fill", "Arrays.copyOf", "Arrays.copyOfRange", "Object.<init>");

    /** These carry the depth of the expression, which ends at 30. */
    private static final Set<String> RECURSIVE = Set.of("Parser.arguments", "Parser.expression", "Parser.index", "Parser.operation", "Parser.postfix",
        "Parser.primary", "Parser.quantifier", "Parser.selection", "Parser.source", "Parser.unary");

    private static int wrong = 0;
    private static Trees trees;
    private static CompilationUnitTree unit;
    private static final Map<String, Set<String>> calls = new TreeMap<>();

    private static void wrong(Tree tree, String what) {
        long line = tree == null ? 0 : unit.getLineMap().getLineNumber(trees.getSourcePositions().getStartPosition(unit, tree));
        System.out.println(PROGRAM + ":" + line + ": " + what);
        wrong++;
    }

    public static void main(String[] args) throws Exception {
        JavaCompiler compiler = ToolProvider.getSystemJavaCompiler();
        StandardJavaFileManager files = compiler.getStandardFileManager(null, null, null);
        Path out = Files.createTempDirectory("rules");
        JavacTask task = (JavacTask) compiler.getTask(null, files, null, List.of("-d", out.toString()), null, files.getJavaFileObjects(PROGRAM));
        unit = task.parse().iterator().next();
        task.analyze();
        trees = Trees.instance(task);
        if (unit.getPackageName() != null) wrong(unit.getPackageName(), "a package line");
        for (ImportTree i : unit.getImports()) {
            if (!i.getQualifiedIdentifier().toString().equals("java.util.Arrays")) wrong(i, "an import");
        }
        new Scanner().scan(new TreePath(unit), null);
        if (Scanner.classes > MOST_CLASSES) wrong(null, Scanner.classes + " classes");
        checkDepth();
        Files.walk(out).sorted(Comparator.reverseOrder()).forEach(p -> p.toFile().delete());
        System.out.println(wrong == 0 ? "LanguageRules: the rules are kept" : wrong + " rules are broken");
        if (wrong != 0) System.exit(1);
    }

    /** The longest chain of calls, where methods that call one another count once. */
    private static void checkDepth() {
        Map<String, Set<String>> reach = new TreeMap<>();
        for (String m : calls.keySet()) {
            Set<String> seen = new TreeSet<>();
            Deque<String> open = new ArrayDeque<>(calls.get(m));
            while (!open.isEmpty()) {
                String n = open.pop();
                if (seen.add(n)) open.addAll(calls.getOrDefault(n, Set.of()));
            }
            reach.put(m, seen);
        }
        Map<String, Integer> depth = new TreeMap<>();
        for (String m : calls.keySet()) {
            int d = depthOf(m, reach, depth);
            if (d > MOST_CALLS) wrong(null, m + " opens " + d + " calls: " + chain(m, reach, depth));
        }
        for (String m : calls.keySet()) {
            if (reach.get(m).contains(m) && !RECURSIVE.contains(m)) wrong(null, m + " is recursive");
        }
    }

    private static int depthOf(String m, Map<String, Set<String>> reach, Map<String, Integer> depth) {
        if (depth.containsKey(m)) return depth.get(m);
        int most = 0;
        Set<String> circle = new TreeSet<>(List.of(m));
        for (String n : reach.getOrDefault(m, Set.of())) if (reach.getOrDefault(n, Set.of()).contains(m)) circle.add(n);
        for (String member : circle) {
            for (String n : calls.getOrDefault(member, Set.of())) {
                if (!circle.contains(n)) most = Math.max(most, depthOf(n, reach, depth));
            }
        }
        for (String member : circle) depth.put(member, most + 1);
        return most + 1;
    }

    private static String chain(String m, Map<String, Set<String>> reach, Map<String, Integer> depth) {
        StringBuilder text = new StringBuilder(m);
        String at = m;
        while (true) {
            String next = null;
            Set<String> circle = new TreeSet<>(List.of(at));
            for (String n : reach.getOrDefault(at, Set.of())) if (reach.getOrDefault(n, Set.of()).contains(at)) circle.add(n);
            for (String member : circle) for (String n : calls.getOrDefault(member, Set.of())) {
                if (!circle.contains(n) && depth.get(n) == depth.get(at) - 1) next = n;
            }
            if (next == null) return text.toString();
            text.append(" > ").append(next);
            at = next;
        }
    }

    private static final class Scanner extends TreePathScanner<Void, Void> {
        static int classes = 0;
        private String method = "";

        private TypeMirror type(Tree tree) {
            return trees.getTypeMirror(new TreePath(getCurrentPath(), tree));
        }

        private static boolean isReal(TypeMirror t) {
            return t != null && (t.getKind() == TypeKind.DOUBLE || t.getKind() == TypeKind.FLOAT);
        }

        @Override public Void visitClass(ClassTree tree, Void v) {
            classes++;
            boolean isOuter = getCurrentPath().getParentPath().getLeaf() == unit;
            Set<Modifier> m = tree.getModifiers().getFlags();
            if (isOuter ? !m.contains(Modifier.FINAL) || !m.contains(Modifier.PUBLIC) : !m.contains(Modifier.STATIC) || m.contains(Modifier.PUBLIC)) {
                wrong(tree, "modifiers of " + tree.getSimpleName());
            }
            int fields = 0;
            for (Tree member : tree.getMembers()) {
                if (member instanceof BlockTree) wrong(member, "an initialiser block");
                if (member instanceof VariableTree f) {
                    Set<Modifier> fm = f.getModifiers().getFlags();
                    if (fm.contains(Modifier.STATIC)) {
                        if (!fm.contains(Modifier.FINAL)) wrong(f, "a static field that is not final");
                        String t = f.getType().toString();
                        if (!Set.of("int", "long", "boolean", "char", "String", "int[]", "long[]", "char[]", "byte[]").contains(t)) wrong(f, "a static " + t);
                    } else {
                        fields++;
                    }
                    if (isOuter && !fm.contains(Modifier.PRIVATE)) wrong(f, "a field of the face");
                }
                if (member instanceof MethodTree f && isOuter) {
                    Set<Modifier> fm = f.getModifiers().getFlags();
                    boolean isFace = FACE.contains(f.getName().toString()) || f.getName().contentEquals("<init>");
                    if (isFace != fm.contains(Modifier.PUBLIC) || !isFace && !fm.contains(Modifier.PRIVATE)) wrong(f, "not the face: " + f.getName());
                }
            }
            if (fields > MOST_FIELDS) wrong(tree, fields + " fields in " + tree.getSimpleName());
            return super.visitClass(tree, v);
        }

        @Override public Void visitMethod(MethodTree tree, Void v) {
            String owner = ((ClassTree) getCurrentPath().getParentPath().getLeaf()).getSimpleName().toString();
            method = owner + "." + tree.getName();
            calls.computeIfAbsent(method, k -> new TreeSet<>());
            long from = unit.getLineMap().getLineNumber(trees.getSourcePositions().getStartPosition(unit, tree));
            long to = unit.getLineMap().getLineNumber(trees.getSourcePositions().getEndPosition(unit, tree));
            if (to - from + 1 > MOST_LINES) wrong(tree, (to - from + 1) + " lines in " + method);
            if (tree.getParameters().size() > MOST_PARAMETERS) wrong(tree, "parameters of " + method);
            if (!tree.getThrows().isEmpty()) wrong(tree, "throws");
            if (tree.getModifiers().getFlags().contains(Modifier.PRIVATE) && FACE.contains(tree.getName().toString())) wrong(tree, "private " + method);
            if (Set.of("equals", "hashCode", "toString").contains(tree.getName().toString())) wrong(tree, method);
            super.visitMethod(tree, v);
            method = "";
            return null;
        }

        @Override public Void visitMethodInvocation(MethodInvocationTree tree, Void v) {
            use(trees.getElement(getCurrentPath()), tree);
            return super.visitMethodInvocation(tree, v);
        }

        @Override public Void visitNewClass(NewClassTree tree, Void v) {
            if (tree.getClassBody() != null) wrong(tree, "an anonymous class");
            use(trees.getElement(getCurrentPath()), tree);
            return super.visitNewClass(tree, v);
        }

        private void use(Element element, Tree tree) {
            String owner = element.getEnclosingElement().getSimpleName().toString();
            String name = owner + "." + element.getSimpleName();
            boolean isOwn = element.getEnclosingElement().toString().startsWith("ObjectHouse");
            if (isOwn) {
                if (!method.isEmpty()) calls.get(method).add(name);
            } else if (!LIBRARY.contains(name)) {
                wrong(tree, "library: " + name);
            }
        }

        @Override public Void visitBinary(BinaryTree tree, Void v) {
            TypeMirror left = type(tree.getLeftOperand());
            TypeMirror right = type(tree.getRightOperand());
            if (tree.getKind() == Tree.Kind.PLUS && (left.toString().equals("java.lang.String") || right.toString().equals("java.lang.String"))) wrong(tree, "texts joined by +");
            if (tree.getKind() == Tree.Kind.REMAINDER && (isReal(left) || isReal(right))) wrong(tree, "% of doubles");
            if ((tree.getKind() == Tree.Kind.EQUAL_TO || tree.getKind() == Tree.Kind.NOT_EQUAL_TO) && left.toString().startsWith("java.lang")) wrong(tree, "== of " + left);
            return super.visitBinary(tree, v);
        }

        @Override public Void visitUnary(UnaryTree tree, Void v) {
            if (isReal(type(tree.getExpression()))) wrong(tree, "unary operator on a double");
            return super.visitUnary(tree, v);
        }

        @Override public Void visitLiteral(LiteralTree tree, Void v) {
            if (tree.getValue() instanceof String s) {
                for (char c : s.toCharArray()) if (c < 1 || c > 127) wrong(tree, "a sign");
            }
            return super.visitLiteral(tree, v);
        }

        @Override public Void visitVariable(VariableTree tree, Void v) {
            TypeMirror t = type(tree.getType());
            int dimensions = 0;
            while (t instanceof ArrayType a) {
                dimensions++;
                t = a.getComponentType();
            }
            boolean isOwn = t.toString().startsWith("ObjectHouse");
            if (dimensions > 2 || dimensions == 2 && !t.getKind().isPrimitive() || !t.getKind().isPrimitive() && !isOwn && !t.toString().equals("java.lang.String")) wrong(tree, "type " + t);
            return super.visitVariable(tree, v);
        }

        @Override public Void visitThrow(ThrowTree tree, Void v) { wrong(tree, "throw"); return super.visitThrow(tree, v); }
        @Override public Void visitTry(TryTree tree, Void v) { wrong(tree, "try"); return super.visitTry(tree, v); }
        @Override public Void visitSynchronized(SynchronizedTree tree, Void v) { wrong(tree, "synchronized"); return super.visitSynchronized(tree, v); }
        @Override public Void visitAssert(AssertTree tree, Void v) { wrong(tree, "assert"); return super.visitAssert(tree, v); }
        @Override public Void visitLambdaExpression(LambdaExpressionTree tree, Void v) { wrong(tree, "lambda"); return super.visitLambdaExpression(tree, v); }
        @Override public Void visitMemberReference(MemberReferenceTree tree, Void v) { wrong(tree, "method reference"); return super.visitMemberReference(tree, v); }
        @Override public Void visitSwitchExpression(SwitchExpressionTree tree, Void v) { wrong(tree, "switch expression"); return super.visitSwitchExpression(tree, v); }
    }
}
