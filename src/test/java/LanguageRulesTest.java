import com.sun.source.tree.ClassTree;
import com.sun.source.tree.CompilationUnitTree;
import com.sun.source.tree.ForLoopTree;
import com.sun.source.tree.MethodInvocationTree;
import com.sun.source.tree.MethodTree;
import com.sun.source.tree.NewClassTree;
import com.sun.source.tree.Tree;
import com.sun.source.tree.VariableTree;
import com.sun.source.tree.WhileLoopTree;
import com.sun.source.util.JavacTask;
import com.sun.source.util.TreePathScanner;
import com.sun.source.util.Trees;
import java.nio.file.Path;
import java.util.ArrayList;
import java.util.EnumSet;
import java.util.HashMap;
import java.util.HashSet;
import java.util.LinkedHashMap;
import java.util.List;
import java.util.Map;
import java.util.Set;
import javax.lang.model.element.Element;
import javax.lang.model.element.ElementKind;
import javax.lang.model.element.Modifier;
import javax.tools.JavaCompiler;
import javax.tools.StandardJavaFileManager;
import javax.tools.ToolProvider;

/** LANGUAGE.md, held against the class as the compiler understands it; each check has its rule's number. */
public final class LanguageRulesTest {
    private static final Checks checks = new Checks();
    /** Rule 11; where it says "some" the number itself is held to, too. */
    private static final int MOST_LINES = 60;
    private static final int MOST_CLASSES = 12;
    private static final int MOST_FIELDS = 20;
    private static final int MOST_PARAMETERS = 7;
    private static final int DEEPEST = 8;
    private static final Set<String> FACE = Set.of("NONE int", "FiberLoom()", "feed(int,int,int,int,int)", "load(int)",
        "fault(int)", "method(int,int)", "instruction(int,int,int)", "row(int,int,int)", "begin(int,int,int)",
        "turns(int,int,int)", "fiber(int,int,int)", "frame(int,int,int,int)", "packed(int,int,int)", "object(int,int,int)",
        "output(int,int)", "about(int,int)");
    private static final EnumSet<Tree.Kind> FORBIDDEN = EnumSet.of(Tree.Kind.LAMBDA_EXPRESSION, Tree.Kind.MEMBER_REFERENCE,
        Tree.Kind.THROW, Tree.Kind.TRY, Tree.Kind.CATCH, Tree.Kind.SYNCHRONIZED, Tree.Kind.ASSERT, Tree.Kind.ANNOTATION_TYPE);
    private static final Map<String, Set<String>> LIBRARY = Map.of(
        "String", Set.of("length", "charAt", "isEmpty", "equals", "indexOf", "substring", "toCharArray"),
        "StringBuilder", Set.of("append", "charAt", "setCharAt", "setLength", "deleteCharAt", "reverse", "length", "toString"),
        "AbstractStringBuilder", Set.of("charAt", "setCharAt", "setLength", "length"),
        "ArrayList", Set.of("add", "get", "set", "remove", "size", "isEmpty", "clear"),
        "List", Set.of("add", "get", "set", "remove", "size", "isEmpty", "clear", "of"),
        "System", Set.of("arraycopy"),
        "Arrays", Set.of("copyOf", "copyOfRange", "fill"),
        "Array", Set.of("clone"));

    public static void main(String[] args) throws Exception {
        JavaCompiler compiler = ToolProvider.getSystemJavaCompiler();
        try (StandardJavaFileManager files = compiler.getStandardFileManager(null, null, null)) {
            JavacTask task = (JavacTask) compiler.getTask(null, files, null, List.of("-proc:none"), null,
                files.getJavaFileObjects(Path.of("src/main/java/FiberLoom.java")));
            CompilationUnitTree unit = task.parse().iterator().next();
            task.analyze();
            Scanner scanner = new Scanner(Trees.instance(task), unit);
            scanner.scan(unit, null);
            scanner.finish();
        }
        checks.finish();
    }

    /** Walks over the whole class, and remembers who calls whom. */
    private static final class Scanner extends TreePathScanner<Void, Void> {
        private final Trees trees;
        private final CompilationUnitTree unit;
        private final Map<Element, Set<Element>> calls = new LinkedHashMap<>();
        private final Map<Element, Integer> depths = new HashMap<>();
        private final Set<Element> open = new HashSet<>();
        private final List<Element> classes = new ArrayList<>();
        /** The method, or outside of any the class, that is looked at. */
        private Element within;

        Scanner(Trees trees, CompilationUnitTree unit) {
            this.trees = trees;
            this.unit = unit;
        }

        private String line(Tree tree) {
            long at = trees.getSourcePositions().getStartPosition(unit, tree);
            return "line " + unit.getLineMap().getLineNumber(at) + ": ";
        }

        private long lines(Tree tree) {
            long from = trees.getSourcePositions().getStartPosition(unit, tree);
            long to = trees.getSourcePositions().getEndPosition(unit, tree);
            return to < 0 ? 0 : unit.getLineMap().getLineNumber(to) - unit.getLineMap().getLineNumber(from) + 1;
        }

        private Element element() {
            return trees.getElement(getCurrentPath());
        }

        private void calls(Element callee) {
            calls.computeIfAbsent(within, key -> new HashSet<>()).add(callee);
        }

        @Override
        public Void scan(Tree tree, Void nothing) {
            if (tree != null && FORBIDDEN.contains(tree.getKind())) {
                checks.due("rules 2 and 6: " + line(tree) + tree.getKind(), true, false);
            }
            return super.scan(tree, nothing);
        }

        @Override
        public Void visitClass(ClassTree tree, Void nothing) {
            Element it = element();
            classes.add(it);
            ElementKind around = it.getEnclosingElement().getKind();
            boolean outer = around == ElementKind.PACKAGE;
            checks.due("rule 2: no class in a method, " + it, outer || around.isClass() || around.isInterface(), true);
            checks.due("rule 2: static, " + it, outer || it.getModifiers().contains(Modifier.STATIC), true);
            int fields = 0;
            for (Tree member : tree.getMembers()) {
                checks.due("rule 5: no block in " + it, member.getKind() != Tree.Kind.BLOCK, true);
                boolean own = member instanceof VariableTree
                    && !((VariableTree) member).getModifiers().getFlags().contains(Modifier.STATIC);
                fields += own ? 1 : 0;
            }
            checks.due("rule 11: " + fields + " fields of " + it, fields <= MOST_FIELDS, true);
            Element before = within;
            within = it;
            super.visitClass(tree, nothing);
            within = before;
            return null;
        }

        @Override
        public Void visitVariable(VariableTree tree, Void nothing) {
            Element it = element();
            String type = it.asType().toString();
            if (it.getKind() == ElementKind.FIELD && it.getModifiers().contains(Modifier.STATIC)) {
                checks.due("rule 5: " + line(tree) + "final", it.getModifiers().contains(Modifier.FINAL), true);
                checks.due("rule 5: " + line(tree) + type,
                    type.matches("int|long|boolean|char|java\\.lang\\.String|(int|long|char|byte|FiberLoom\\.\\w+)\\[\\]"), true);
                checks.due("rule 5: " + line(tree) + "written out", tree.getInitializer() != null, true);
            }
            String plain = type.replaceAll("java\\.util\\.(Array)?List<[^>]*>|java\\.lang\\.(String|StringBuilder|Integer)", "int");
            checks.due("rule 3: " + line(tree) + type, plain.contains("java"), false);
            checks.due("rule 3: " + line(tree) + type, plain.matches("FiberLoom.*\\[\\]\\[\\].*|.*\\[\\]\\[\\]\\[\\].*"), false);
            return super.visitVariable(tree, nothing);
        }

        @Override
        public Void visitMethod(MethodTree tree, Void nothing) {
            Element before = within;
            within = element();
            calls.computeIfAbsent(within, key -> new HashSet<>());
            checks.due("rule 11: " + line(tree) + tree.getParameters().size() + " parameters", tree.getParameters().size() <= MOST_PARAMETERS, true);
            checks.due("rule 11: " + line(tree) + lines(tree) + " lines", lines(tree) <= MOST_LINES, true);
            super.visitMethod(tree, nothing);
            within = before;
            return null;
        }

        @Override
        public Void visitForLoop(ForLoopTree tree, Void nothing) {
            checks.due("rule 9: " + line(tree) + "an end", tree.getCondition() != null, true);
            return super.visitForLoop(tree, nothing);
        }

        @Override
        public Void visitWhileLoop(WhileLoopTree tree, Void nothing) {
            checks.due("rule 9: " + line(tree) + "an end", tree.getCondition().toString().equals("(true)"), false);
            return super.visitWhileLoop(tree, nothing);
        }

        @Override
        public Void visitMethodInvocation(MethodInvocationTree tree, Void nothing) {
            Element callee = element();
            String owner = callee.getEnclosingElement().getSimpleName().toString();
            String name = callee.getSimpleName().toString();
            calls(callee);
            if (callee.getEnclosingElement().toString().startsWith("FiberLoom")) {
                boolean fixed = callee.getModifiers().contains(Modifier.STATIC) || callee.getModifiers().contains(Modifier.PRIVATE)
                    || callee.getEnclosingElement().getModifiers().contains(Modifier.FINAL);
                boolean making = within.getKind() == ElementKind.CONSTRUCTOR;
                checks.due("rule 12: " + line(tree) + "none that could be overridden", fixed || !making, true);
            } else if (callee.getKind() != ElementKind.CONSTRUCTOR) {
                boolean numbers = owner.equals("Integer") || owner.equals("Long") || owner.equals("Math");
                boolean listed = LIBRARY.getOrDefault(owner, Set.of()).contains(name);
                checks.due("rule 4: " + line(tree) + owner + "." + name, listed || numbers && !name.endsWith("Exact"), true);
            }
            return super.visitMethodInvocation(tree, nothing);
        }

        @Override
        public Void visitNewClass(NewClassTree tree, Void nothing) {
            Element made = element();
            String owner = made.getEnclosingElement().toString();
            checks.due("rule 2: " + line(tree) + "no class without a name", tree.getClassBody() == null, true);
            checks.due("rule 4: " + line(tree) + owner,
                owner.startsWith("FiberLoom") || owner.matches("java\\.lang\\.String(Builder)?|java\\.util\\.ArrayList"), true);
            calls(made);
            return super.visitNewClass(tree, nothing);
        }

        /**
         * How many calls stand open at most, without recursion, those of the library and of Object's
         * constructor among them; a constructor makes its class's fields too.
         */
        private int depth(Element one) {
            if (depths.containsKey(one)) {
                return depths.get(one);
            }
            open.add(one);
            Set<Element> all = new HashSet<>(calls.getOrDefault(one, Set.of()));
            if (one.getKind() == ElementKind.CONSTRUCTOR) {
                all.addAll(calls.getOrDefault(one.getEnclosingElement(), Set.of()));
            }
            int deepest = 0;
            for (Element callee : all) {
                deepest = Math.max(deepest, open.contains(callee) ? 0 : depth(callee));
            }
            open.remove(one);
            depths.put(one, deepest + 1);
            return deepest + 1;
        }

        void finish() {
            checks.due("one class and no package", unit.getTypeDecls().size() == 1 && unit.getPackageName() == null, true);
            checks.due("rule 11: " + classes.size() + " classes", classes.size() <= MOST_CLASSES, true);
            int deepest = 0;
            for (Element one : new ArrayList<>(calls.keySet())) {
                deepest = Math.max(deepest, depth(one));
            }
            checks.due("rule 11: calls are " + deepest + " deep", deepest <= DEEPEST, true);
            face();
        }

        private void face() {
            Element outer = classes.get(0);
            Set<String> publicOnes = new HashSet<>();
            Set<String> publicNames = new HashSet<>();
            for (Element member : outer.getEnclosedElements()) {
                Set<Modifier> flags = member.getModifiers();
                boolean inside = member.getKind().isClass() || member.getKind().isInterface();
                if (inside) {
                    checks.due("rule 1: " + member, flags.contains(Modifier.PUBLIC) || flags.contains(Modifier.PROTECTED), false);
                } else if (flags.contains(Modifier.PUBLIC)) {
                    boolean field = member.getKind() == ElementKind.FIELD;
                    publicOnes.add(field ? member + " " + member.asType() : member.toString());
                    publicNames.add(member.getSimpleName().toString());
                } else {
                    checks.due("rule 1: private, " + member, flags.contains(Modifier.PRIVATE), true);
                }
            }
            checks.due("rule 1: public and final", outer.getModifiers().containsAll(Set.of(Modifier.PUBLIC, Modifier.FINAL)), true);
            checks.due("rule 1: the face is " + publicOnes, publicOnes.equals(FACE), true);
            for (Element one : calls.keySet()) {
                if (one.getKind() == ElementKind.METHOD && one.getModifiers().contains(Modifier.PRIVATE)) {
                    checks.due("rule 1: the name of " + one, publicNames.contains(one.getSimpleName().toString()), false);
                }
            }
        }
    }
}
