import com.sun.source.tree.*;
import com.sun.source.util.JavacTask;
import com.sun.source.util.TreePath;
import com.sun.source.util.TreePathScanner;
import com.sun.source.util.Trees;
import java.io.File;
import java.nio.file.Files;
import java.nio.file.Path;
import java.util.ArrayList;
import java.util.Arrays;
import java.util.HashMap;
import java.util.HashSet;
import java.util.LinkedHashMap;
import java.util.List;
import java.util.Map;
import java.util.Set;
import java.util.TreeSet;
import javax.lang.model.element.Element;
import javax.lang.model.element.ElementKind;
import javax.lang.model.element.ExecutableElement;
import javax.lang.model.element.Modifier;
import javax.lang.model.type.TypeMirror;
import javax.tools.JavaCompiler;
import javax.tools.StandardJavaFileManager;
import javax.tools.ToolProvider;

/** The rules of ../shared/LANGUAGE.md, as far as they can be read off the program's tree. */
public final class LanguageTest {
    private static final String PROGRAM = "src/main/java/DoorPost.java";
    private static final Set<String> ARITHMETIC = Set.of("compare", "max", "min", "abs", "bitCount", "floorDiv",
        "floorMod", "signum", "numberOfTrailingZeros", "numberOfLeadingZeros");
    private static final Map<String, Set<String>> LIBRARY = Map.of(
        "java.lang.String", Set.of("length", "charAt", "isEmpty", "equals", "indexOf", "substring", "toCharArray"),
        "java.lang.StringBuilder", Set.of("append", "charAt", "setCharAt", "setLength", "deleteCharAt", "reverse",
            "length", "toString"),
        "java.util.ArrayList", Set.of("add", "get", "set", "remove", "size", "isEmpty", "clear"),
        "java.util.List", Set.of("add", "get", "set", "remove", "size", "isEmpty", "clear", "of"),
        "java.lang.System", Set.of("arraycopy"),
        "java.util.Arrays", Set.of("copyOf", "copyOfRange", "fill"),
        "java.lang.Integer", ARITHMETIC, "java.lang.Long", ARITHMETIC, "java.lang.Math", ARITHMETIC);
    private static final Set<Tree.Kind> REFUSED = Set.of(Tree.Kind.LAMBDA_EXPRESSION, Tree.Kind.MEMBER_REFERENCE,
        Tree.Kind.THROW, Tree.Kind.TRY, Tree.Kind.CATCH, Tree.Kind.SYNCHRONIZED, Tree.Kind.ASSERT,
        Tree.Kind.SWITCH_EXPRESSION, Tree.Kind.YIELD, Tree.Kind.ANNOTATION, Tree.Kind.UNION_TYPE);
    private static final List<String> wrong = new ArrayList<>();

    private final Trees trees;
    private final CompilationUnitTree unit;
    private final Map<Element, Set<Element>> calls = new LinkedHashMap<>();
    private final Set<String> publicMethods = new HashSet<>();

    private LanguageTest(Trees trees, CompilationUnitTree unit) {
        this.trees = trees;
        this.unit = unit;
    }

    public static void main(String[] args) throws Exception {
        JavaCompiler compiler = ToolProvider.getSystemJavaCompiler();
        StandardJavaFileManager files = compiler.getStandardFileManager(null, null, null);
        JavacTask task = (JavacTask) compiler.getTask(null, files, null, List.of("-proc:none"), null,
            files.getJavaFileObjects(new File(PROGRAM)));
        CompilationUnitTree unit = task.parse().iterator().next();
        task.analyze();
        new LanguageTest(Trees.instance(task), unit).check();
        for (String w : wrong) {
            System.out.println(w);
        }
        System.out.println(wrong.isEmpty() ? "the program keeps to the language" : wrong.size() + " faults");
        if (!wrong.isEmpty()) {
            System.exit(1);
        }
    }

    private void fault(int rule, Tree tree, String what) {
        long place = trees.getSourcePositions().getStartPosition(unit, tree);
        wrong.add("rule " + rule + ", line " + unit.getLineMap().getLineNumber(place) + ": " + what);
    }

    private void check() throws Exception {
        if (unit.getPackageName() != null || unit.getTypeDecls().size() != 1) {
            fault(0, unit, "one class without a package is wanted");
        }
        ClassTree face = (ClassTree) unit.getTypeDecls().get(0);
        checkFace(face);
        new Scanner().scan(unit, null);
        checkDepth();
    }

    // ---- rule 1

    private void checkFace(ClassTree face) throws Exception {
        Set<String> has = new TreeSet<>();
        for (Tree member : face.getMembers()) {
            if (member instanceof MethodTree) {
                MethodTree method = (MethodTree) member;
                if (method.getModifiers().getFlags().contains(Modifier.PUBLIC)) {
                    publicMethods.add(method.getName().toString());
                    has.add(signature(method));
                } else if (!method.getModifiers().getFlags().contains(Modifier.PRIVATE)) {
                    fault(1, member, method.getName() + " is neither public nor private");
                }
            } else if (member instanceof VariableTree) {
                VariableTree field = (VariableTree) member;
                if (field.getModifiers().getFlags().contains(Modifier.PUBLIC)) {
                    has.add(field.getName() + " = " + field.getInitializer());
                } else if (!field.getModifiers().getFlags().contains(Modifier.PRIVATE)) {
                    fault(1, member, field.getName() + " is neither public nor private");
                }
            }
        }
        Set<String> due = documentsFace();
        if (!has.equals(due)) {
            Set<String> more = new TreeSet<>(has);
            more.removeAll(due);
            due.removeAll(has);
            fault(1, face, "too much: " + more + ", lacking: " + due);
        }
    }

    private static String signature(MethodTree method) {
        StringBuilder all = new StringBuilder();
        all.append(method.getReturnType() == null ? "DoorPost" : method.getReturnType() + " " + method.getName());
        for (VariableTree parameter : method.getParameters()) {
            all.append(", ").append(parameter.getType()).append(' ').append(parameter.getName());
        }
        return all.toString();
    }

    private static Set<String> documentsFace() throws Exception {
        String text = Files.readString(Path.of("../shared/DOC.md"));
        Set<String> all = new TreeSet<>();
        String code = text.substring(text.indexOf("```java"), text.indexOf("```", text.indexOf("```java") + 7));
        for (String line : code.split("\n")) {
            String plain = line.trim().replace("public static final int ", "").replace("public ", "").replace(";", "");
            if (line.contains("static final int")) {
                all.addAll(Arrays.asList(plain.split(", ")));
            } else if (line.contains("(")) {
                String inside = plain.substring(plain.indexOf('(') + 1, plain.indexOf(')'));
                all.add(plain.substring(0, plain.indexOf('(')) + (inside.isEmpty() ? "" : ", " + inside));
            }
        }
        return all;
    }

    // ---- rules 2 to 12

    private final class Scanner extends TreePathScanner<Void, Void> {
        private int classes = 0;
        private Element method = null;

        @Override
        public Void scan(Tree tree, Void none) {
            if (tree != null && REFUSED.contains(tree.getKind())) {
                fault(tree.getKind() == Tree.Kind.LAMBDA_EXPRESSION ? 2 : 6, tree, tree.getKind() + "");
            }
            return super.scan(tree, none);
        }

        @Override
        public Void visitClass(ClassTree tree, Void none) {
            classes++;
            Set<Modifier> flags = tree.getModifiers().getFlags();
            boolean outer = getCurrentPath().getParentPath().getLeaf() == unit;
            boolean member = getCurrentPath().getParentPath().getLeaf() instanceof ClassTree;
            if (outer && !flags.containsAll(Set.of(Modifier.PUBLIC, Modifier.FINAL))) {
                fault(1, tree, "the class is not public and final");
            }
            if (!outer && (!member || flags.contains(Modifier.PUBLIC) || flags.contains(Modifier.PROTECTED)
                    || tree.getKind() == Tree.Kind.CLASS && !flags.contains(Modifier.STATIC))) {
                fault(2, tree, "a class inside is private or package-visible, and static: " + tree.getSimpleName());
            }
            if (classes > 12) {
                fault(11, tree, "more than twelve classes");
            }
            int fields = 0;
            for (Tree m : tree.getMembers()) {
                if (m instanceof BlockTree) {
                    fault(5, m, "a block");
                }
                if (m instanceof VariableTree) {
                    checkField((VariableTree) m);
                    fields += ((VariableTree) m).getModifiers().getFlags().contains(Modifier.STATIC) ? 0 : 1;
                }
            }
            if (fields > 20) {
                fault(11, tree, fields + " fields");
            }
            return super.visitClass(tree, none);
        }

        private void checkField(VariableTree field) {
            Set<Modifier> flags = field.getModifiers().getFlags();
            if (!flags.contains(Modifier.STATIC)) {
                return;
            }
            String type = field.getType().toString();
            boolean constant = Set.of("int", "long", "boolean", "char", "String").contains(type);
            boolean table = Set.of("int[]", "long[]", "char[]", "byte[]").contains(type)
                && field.getInitializer() instanceof NewArrayTree
                && ((NewArrayTree) field.getInitializer()).getInitializers() != null;
            if (!flags.contains(Modifier.FINAL) || !constant && !table) {
                fault(5, field, "static " + field.getName());
            }
        }

        @Override
        public Void visitMethod(MethodTree tree, Void none) {
            if (tree.getParameters().size() > 7) {
                fault(11, tree, tree.getName() + " takes more than seven");
            }
            long start = trees.getSourcePositions().getStartPosition(unit, tree);
            long end = trees.getSourcePositions().getEndPosition(unit, tree);
            if (end > start && unit.getLineMap().getLineNumber(end) - unit.getLineMap().getLineNumber(start) > 60) {
                fault(11, tree, tree.getName() + " is long");
            }
            boolean isFace = getCurrentPath().getParentPath().getParentPath().getLeaf() == unit
                && tree.getModifiers().getFlags().contains(Modifier.PUBLIC);
            if (!isFace && publicMethods.contains(tree.getName().toString())
                    && !tree.getName().contentEquals("<init>")) {
                fault(1, tree, tree.getName() + " bears the name of a public one");
            }
            if (Set.of("equals", "hashCode", "toString", "finalize").contains(tree.getName().toString())) {
                fault(6, tree, tree.getName() + "");
            }
            Element before = method;
            method = trees.getElement(getCurrentPath());
            calls.computeIfAbsent(method, k -> new HashSet<>());
            super.visitMethod(tree, none);
            method = before;
            return null;
        }

        @Override
        public Void visitMethodInvocation(MethodInvocationTree tree, Void none) {
            call(trees.getElement(new TreePath(getCurrentPath(), tree.getMethodSelect())), tree);
            return super.visitMethodInvocation(tree, none);
        }

        @Override
        public Void visitNewClass(NewClassTree tree, Void none) {
            if (tree.getClassBody() != null) {
                fault(2, tree, "an anonymous class");
            }
            call(trees.getElement(getCurrentPath()), tree);
            return super.visitNewClass(tree, none);
        }

        private void call(Element called, Tree tree) {
            String owner = called.getEnclosingElement().toString();
            String name = called.getSimpleName().toString();
            if (owner.startsWith("DoorPost")) {
                if (method != null) {
                    calls.get(method).add(called);
                }
                return;
            }
            boolean plainSuper = owner.equals("java.lang.Object") && name.equals("<init>");
            boolean made = name.equals("<init>") && Set.of("java.lang.String", "java.lang.StringBuilder",
                "java.util.ArrayList").contains(owner);
            if (!plainSuper && !made && !LIBRARY.getOrDefault(owner, Set.of()).contains(name)) {
                fault(4, tree, owner + "." + name);
            }
            if (name.equals("indexOf") && !((ExecutableElement) called).getParameters().get(0).asType().toString()
                    .equals("int")) {
                fault(4, tree, "indexOf of a text");
            }
        }

        @Override
        public Void visitBinary(BinaryTree tree, Void none) {
            for (Tree side : List.of(tree.getLeftOperand(), tree.getRightOperand())) {
                TypeMirror type = trees.getTypeMirror(new TreePath(getCurrentPath(), side));
                if (type != null && (type.toString().equals("java.lang.String")
                        || type.toString().equals("java.lang.Integer"))) {
                    fault(10, tree, tree.getKind() + " of " + type);
                }
            }
            return super.visitBinary(tree, none);
        }

        @Override
        public Void visitVariable(VariableTree tree, Void none) {
            String type = String.valueOf(trees.getTypeMirror(getCurrentPath()));
            boolean own = type.startsWith("DoorPost");
            boolean plain = type.matches("(int|long|short|byte|char|boolean|double|float)(\\[\\]){0,2}");
            boolean library = type.matches("java\\.lang\\.(String|StringBuilder|Integer)|java\\.util\\.(Array)?List<.*>");
            if (!own && !plain && !library) {
                fault(3, tree, type + " " + tree.getName());
            }
            return super.visitVariable(tree, none);
        }

        @Override
        public Void visitLiteral(LiteralTree tree, Void none) {
            if (tree.getValue() instanceof String) {
                for (char c : ((String) tree.getValue()).toCharArray()) {
                    if (c < 1 || c > 127) {
                        fault(4, tree, "a sign beyond 127");
                    }
                }
            }
            return super.visitLiteral(tree, none);
        }

        @Override
        public Void visitWhileLoop(WhileLoopTree tree, Void none) {
            fault(9, tree, "this program counts its loops: a for is wanted");
            return super.visitWhileLoop(tree, none);
        }

        @Override
        public Void visitDoWhileLoop(DoWhileLoopTree tree, Void none) {
            fault(9, tree, "this program counts its loops: a for is wanted");
            return super.visitDoWhileLoop(tree, none);
        }

        @Override
        public Void visitForLoop(ForLoopTree tree, Void none) {
            String bound = String.valueOf(tree.getCondition());
            if (tree.getInitializer().size() != 1 || tree.getUpdate().size() != 1 || !bound.matches(".*[<>].*")) {
                fault(9, tree, "a loop without a counter against a bound");
            }
            return super.visitForLoop(tree, none);
        }

        @Override
        public Void visitImport(ImportTree tree, Void none) {
            if (!tree.getQualifiedIdentifier().toString().matches("java\\.util\\.(Arrays|ArrayList|List|Iterator)")) {
                fault(4, tree, "import " + tree.getQualifiedIdentifier());
            }
            return super.visitImport(tree, none);
        }
    }

    // ---- rules 8 and 11: how deep calls go, recursions counted once

    private void checkDepth() {
        Map<Element, Set<Element>> reached = new HashMap<>();
        for (Element from : calls.keySet()) {
            Set<Element> all = new HashSet<>();
            collect(from, all);
            reached.put(from, all);
        }
        for (Element from : calls.keySet()) {
            if (calls.get(from).contains(from)) {
                boolean fine = from.getModifiers().containsAll(Set.of(Modifier.PRIVATE, Modifier.STATIC));
                if (!fine) {
                    wrong.add("rule 8: " + from + " calls itself and is not private and static");
                }
            }
            if (reached.get(from).contains(from) && !from.getModifiers().contains(Modifier.PRIVATE)) {
                wrong.add("rule 8: " + from + " is part of a recursion and not private");
            }
        }
        for (Element from : calls.keySet()) {
            if (from.getModifiers().contains(Modifier.PUBLIC) || from.getKind() == ElementKind.CONSTRUCTOR) {
                int deep = depth(from, reached, new HashMap<>());
                if (deep > 8) {
                    wrong.add("rule 11: calls from " + from + " go " + deep + " deep");
                }
            }
        }
    }

    private void collect(Element from, Set<Element> all) {
        for (Element to : calls.getOrDefault(from, Set.of())) {
            if (all.add(to)) {
                collect(to, all);
            }
        }
    }

    private int depth(Element from, Map<Element, Set<Element>> reached, Map<Element, Integer> known) {
        if (known.containsKey(from)) {
            return known.get(from);
        }
        int deepest = 0;
        Set<Element> group = new HashSet<>(Set.of(from));
        for (Element other : reached.getOrDefault(from, Set.of())) {
            if (reached.getOrDefault(other, Set.of()).contains(from)) {
                group.add(other);
            }
        }
        for (Element one : group) {
            for (Element to : calls.getOrDefault(one, Set.of())) {
                if (!group.contains(to)) {
                    deepest = Math.max(deepest, depth(to, reached, known));
                }
            }
        }
        known.put(from, deepest + 1);
        return deepest + 1;
    }
}
