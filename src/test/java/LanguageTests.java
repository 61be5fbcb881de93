import com.sun.source.tree.BinaryTree;
import com.sun.source.tree.ClassTree;
import com.sun.source.tree.CompilationUnitTree;
import com.sun.source.tree.ExpressionTree;
import com.sun.source.tree.ForLoopTree;
import com.sun.source.tree.ImportTree;
import com.sun.source.tree.MethodInvocationTree;
import com.sun.source.tree.MethodTree;
import com.sun.source.tree.NewClassTree;
import com.sun.source.tree.Tree;
import com.sun.source.tree.VariableTree;
import com.sun.source.tree.WhileLoopTree;
import com.sun.source.util.JavacTask;
import com.sun.source.util.TreePathScanner;
import com.sun.source.util.Trees;
import java.nio.file.Files;
import java.nio.file.Path;
import java.util.ArrayList;
import java.util.EnumSet;
import java.util.HashMap;
import java.util.HashSet;
import java.util.LinkedHashMap;
import java.util.LinkedHashSet;
import java.util.List;
import java.util.Map;
import java.util.Set;
import java.util.TreeSet;
import java.util.regex.Matcher;
import java.util.regex.Pattern;
import javax.lang.model.element.Element;
import javax.lang.model.element.Modifier;
import javax.lang.model.element.TypeElement;
import javax.tools.JavaCompiler;
import javax.tools.StandardJavaFileManager;
import javax.tools.ToolProvider;

/** Holds src/main/java/KneeOaths.java against the rules of ../shared/LANGUAGE.md that can be read from its lines. */
final class LanguageTests {
    private static final Path SOURCE = Path.of("src/main/java/KneeOaths.java");
    private static final Path DOCUMENT = Path.of("../shared/DOC.md");

    private static final Set<Tree.Kind> FORBIDDEN = EnumSet.of(Tree.Kind.THROW, Tree.Kind.TRY, Tree.Kind.CATCH,
        Tree.Kind.SYNCHRONIZED, Tree.Kind.ASSERT, Tree.Kind.LAMBDA_EXPRESSION, Tree.Kind.MEMBER_REFERENCE, Tree.Kind.PACKAGE);

    /** Of rule 4; the static functions of Integer, Long and Math are looked at by themselves. */
    private static final Map<String, Set<String>> LIBRARY = Map.of(
        "java.lang.Object", Set.of("<init>"),
        "java.lang.String", Set.of("length", "charAt", "isEmpty", "equals", "indexOf", "substring", "toCharArray", "<init>"),
        "java.lang.StringBuilder", Set.of("<init>", "append", "charAt", "setCharAt", "setLength", "deleteCharAt", "reverse", "length", "toString"),
        "java.util.ArrayList", Set.of("<init>", "add", "get", "set", "remove", "size", "isEmpty", "clear", "iterator"),
        "java.util.List", Set.of("of", "add", "get", "set", "remove", "size", "isEmpty", "clear", "iterator"),
        "java.lang.System", Set.of("arraycopy"),
        "java.util.Arrays", Set.of("copyOf", "copyOfRange", "fill"));

    private static final Set<String> NUMBER_CLASSES = Set.of("java.lang.Integer", "java.lang.Long", "java.lang.Math");

    private static final Set<String> IMPORTS = Set.of("java.util.ArrayList", "java.util.List", "java.util.Arrays", "java.util.Iterator");

    private static final Set<String> CONSTANTS = Set.of("int", "long", "boolean", "char", "String", "int[]", "long[]", "char[]", "byte[]");

    private final Map<Element, MethodTree> methods = new LinkedHashMap<>();
    private final Map<Element, Set<Element>> calls = new HashMap<>();
    private final Map<ClassTree, TypeElement> classes = new LinkedHashMap<>();
    private final Set<String> library = new TreeSet<>();
    private final List<String> wrong = new ArrayList<>();
    private final CompilationUnitTree unit;
    private final Trees trees;

    private LanguageTests() throws Exception {
        JavaCompiler compiler = ToolProvider.getSystemJavaCompiler();
        StandardJavaFileManager files = compiler.getStandardFileManager(null, null, null);
        JavacTask task = (JavacTask) compiler.getTask(null, files, null, List.of("-proc:none"), null, files.getJavaFileObjects(SOURCE));
        unit = task.parse().iterator().next();
        task.analyze();
        trees = Trees.instance(task);
        new Walk().scan(unit, null);
    }

    public static void main(String[] args) throws Exception {
        LanguageTests t = new LanguageTests();
        Suite suite = new Suite("LanguageTests");
        suite.run("rule 1: the face is the document's", t::face);
        suite.run("rule 1: no private method bears a public name", t::names);
        suite.run("rules 2, 6, 9, 10, 12: nothing forbidden", () -> Suite.same("forbidden", List.of(), t.wrong));
        suite.run("rule 2: classes inside are private, static, final", t::nested);
        suite.run("rule 4: the library", t::libraryCalls);
        suite.run("rule 5: static fields are constants", t::statics);
        suite.run("rule 8: what calls itself carries its depth", t::recursion);
        suite.run("rule 11: methods of sixty lines and seven parameters", t::methodSizes);
        suite.run("rule 11: twelve classes of twenty fields", t::classSizes);
        suite.run("rule 11: calls go at most eight deep", t::depth);
        suite.close();
    }

    private int line(long position) {
        return (int) unit.getLineMap().getLineNumber(position);
    }

    private final class Walk extends TreePathScanner<Void, Void> {
        private Element inside;

        private void wrong(Tree tree, String what) {
            wrong.add("line " + line(trees.getSourcePositions().getStartPosition(unit, tree)) + ": " + what);
        }

        @Override
        public Void scan(Tree tree, Void nothing) {
            if (tree != null && FORBIDDEN.contains(tree.getKind())) wrong(tree, tree.getKind().toString());
            return super.scan(tree, nothing);
        }

        @Override
        public Void visitClass(ClassTree tree, Void nothing) {
            if (inside != null) wrong(tree, "a class in a method");
            classes.put(tree, (TypeElement) trees.getElement(getCurrentPath()));
            return super.visitClass(tree, nothing);
        }

        @Override
        public Void visitMethod(MethodTree tree, Void nothing) {
            Element method = trees.getElement(getCurrentPath());
            if (trees.getSourcePositions().getEndPosition(unit, tree) < 0) return null;
            methods.put(method, tree);
            calls.put(method, new LinkedHashSet<>());
            inside = method;
            super.visitMethod(tree, nothing);
            inside = null;
            return null;
        }

        private void called(Element callee) {
            String owner = callee.getEnclosingElement().toString();
            if (!owner.startsWith("KneeOaths")) library.add(owner + "." + callee.getSimpleName());
            if (inside != null) calls.get(inside).add(callee);
        }

        @Override
        public Void visitMethodInvocation(MethodInvocationTree tree, Void nothing) {
            called(trees.getElement(new com.sun.source.util.TreePath(getCurrentPath(), tree.getMethodSelect())));
            return super.visitMethodInvocation(tree, nothing);
        }

        @Override
        public Void visitNewClass(NewClassTree tree, Void nothing) {
            called(trees.getElement(getCurrentPath()));
            if (tree.getClassBody() != null) wrong(tree, "a class without a name");
            return super.visitNewClass(tree, nothing);
        }

        @Override
        public Void visitImport(ImportTree tree, Void nothing) {
            if (!IMPORTS.contains(tree.getQualifiedIdentifier().toString())) wrong(tree, tree.toString());
            return super.visitImport(tree, nothing);
        }

        @Override
        public Void visitBinary(BinaryTree tree, Void nothing) {
            String type = trees.getTypeMirror(getCurrentPath()).toString();
            if (type.equals("java.lang.String")) wrong(tree, "texts joined by +");
            return super.visitBinary(tree, nothing);
        }

        private void loop(Tree tree, ExpressionTree condition) {
            if (condition == null || condition.toString().matches("\\(?true\\)?")) wrong(tree, "a loop whose end isn't seen");
        }

        @Override
        public Void visitWhileLoop(WhileLoopTree tree, Void nothing) {
            loop(tree, tree.getCondition());
            return super.visitWhileLoop(tree, nothing);
        }

        @Override
        public Void visitForLoop(ForLoopTree tree, Void nothing) {
            loop(tree, tree.getCondition());
            return super.visitForLoop(tree, nothing);
        }
    }

    private static String shape(Element method, MethodTree tree) {
        StringBuilder s = new StringBuilder(tree.getReturnType() == null ? "KneeOaths" : tree.getReturnType() + " " + tree.getName());
        s.append('(');
        for (VariableTree p : tree.getParameters()) {
            if (s.charAt(s.length() - 1) != '(') s.append(", ");
            s.append(p.getType()).append(' ').append(p.getName());
        }
        return s.append(')').toString();
    }

    /** What stands in the document's Java, against all members of the class that aren't private. */
    private void face() throws Exception {
        Set<String> due = new TreeSet<>(), got = new TreeSet<>();
        String document = Files.readString(DOCUMENT);
        Matcher m = Pattern.compile("(?m)^    public (?:static final )?(.*?)(?: = -1)?;$").matcher(document);
        while (m.find()) due.add(m.group(1));
        for (Element e : classes.values().iterator().next().getEnclosedElements()) {
            if (e.getModifiers().contains(Modifier.PRIVATE)) continue;
            MethodTree tree = methods.get(e);
            got.add(tree == null ? e.asType() + " " + e.getSimpleName() : shape(e, tree));
            if (!e.getModifiers().contains(Modifier.PUBLIC)) got.add("not public: " + e);
        }
        Suite.same("face", due, got);
        Suite.same("how many", 50, due.size());
    }

    private void names() {
        Set<String> open = new HashSet<>();
        for (Element e : methods.keySet()) if (e.getModifiers().contains(Modifier.PUBLIC)) open.add(e.getSimpleName().toString());
        open.remove("<init>");
        for (Element e : methods.keySet()) {
            if (!e.getModifiers().contains(Modifier.PUBLIC) && open.contains(e.getSimpleName().toString())) {
                throw new AssertionError(e.getEnclosingElement() + "." + e);
            }
        }
    }

    private void nested() {
        classes.forEach((tree, e) -> {
            boolean outer = e.getSimpleName().contentEquals("KneeOaths");
            Set<Modifier> has = e.getModifiers();
            if (outer) Suite.same("KneeOaths", EnumSet.of(Modifier.PUBLIC, Modifier.FINAL), new HashSet<>(has));
            boolean hidden = !has.contains(Modifier.PUBLIC) && !has.contains(Modifier.PROTECTED) && has.contains(Modifier.STATIC);
            if (!outer) Suite.same(e + " is hidden and static", true, hidden);
        });
    }

    private static boolean allowed(String owner, String name) {
        return LIBRARY.getOrDefault(owner, Set.of()).contains(name) || NUMBER_CLASSES.contains(owner) && !name.endsWith("Exact");
    }

    private void libraryCalls() {
        library.removeIf(call -> allowed(call.substring(0, call.lastIndexOf('.')), call.substring(call.lastIndexOf('.') + 1)));
        Suite.same("library", Set.of(), library);
    }

    private void statics() {
        for (ClassTree c : classes.keySet()) {
            for (Tree member : c.getMembers()) {
                if (member.getKind() == Tree.Kind.BLOCK) throw new AssertionError("an initialiser block");
                if (!(member instanceof VariableTree v) || !v.getModifiers().getFlags().contains(Modifier.STATIC)) continue;
                String type = v.getType().toString();
                boolean fine = v.getModifiers().getFlags().contains(Modifier.FINAL) && CONSTANTS.contains(type);
                if (!fine) throw new AssertionError(v.toString());
            }
        }
    }

    private void methodSizes() {
        methods.forEach((e, tree) -> {
            int from = line(trees.getSourcePositions().getStartPosition(unit, tree));
            int to = line(trees.getSourcePositions().getEndPosition(unit, tree));
            if (to - from >= 60 || tree.getParameters().size() > 7) throw new AssertionError(e.toString());
        });
    }

    private void classSizes() {
        if (classes.size() > 12) throw new AssertionError(classes.size() + " classes");
        for (ClassTree c : classes.keySet()) {
            int fields = 0;
            for (Tree member : c.getMembers()) {
                if (member instanceof VariableTree v && !v.getModifiers().getFlags().contains(Modifier.STATIC)) fields++;
            }
            if (fields > 20) throw new AssertionError(c.getSimpleName() + " has " + fields + " fields");
        }
    }

    private boolean reaches(Element from, Element to, Set<Element> met) {
        for (Element e : calls.getOrDefault(from, Set.of())) {
            if (e.equals(to) || met.add(e) && reaches(e, to, met)) return true;
        }
        return false;
    }

    private void recursion() {
        for (Element e : methods.keySet()) {
            if (!reaches(e, e, new HashSet<>())) continue;
            boolean carries = false;
            for (VariableTree p : methods.get(e).getParameters()) carries |= p.getType().toString().equals("int");
            if (!carries || !e.getModifiers().contains(Modifier.PRIVATE)) throw new AssertionError(e.toString());
        }
    }

    /** Methods that call one another count once; those of the library count too. */
    private void depth() {
        Map<Element, Set<Element>> groups = new HashMap<>();
        for (Element e : methods.keySet()) {
            Set<Element> group = new LinkedHashSet<>(Set.of(e));
            for (Element other : methods.keySet()) {
                if (reaches(e, other, new HashSet<>()) && reaches(other, e, new HashSet<>())) group.add(other);
            }
            groups.put(e, group);
        }
        for (Element e : methods.keySet()) {
            List<String> chain = longest(e, groups, new HashMap<>());
            if (chain.size() > 8) throw new AssertionError(chain.size() + " deep: " + chain);
        }
    }

    private List<String> longest(Element from, Map<Element, Set<Element>> groups, Map<Element, List<String>> known) {
        if (known.containsKey(from)) return known.get(from);
        List<String> best = List.of();
        Set<Element> group = groups.getOrDefault(from, Set.of(from));
        for (Element member : group) {
            for (Element callee : calls.getOrDefault(member, Set.of())) {
                if (group.contains(callee)) continue;
                List<String> chain = longest(callee, groups, known);
                if (chain.size() > best.size()) best = chain;
            }
        }
        List<String> chain = new ArrayList<>(List.of(from.getSimpleName().toString()));
        chain.addAll(best);
        known.put(from, chain);
        return chain;
    }
}
