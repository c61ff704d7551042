import com.sun.source.tree.BinaryTree;
import com.sun.source.tree.BlockTree;
import com.sun.source.tree.ClassTree;
import com.sun.source.tree.CompilationUnitTree;
import com.sun.source.tree.LambdaExpressionTree;
import com.sun.source.tree.MemberReferenceTree;
import com.sun.source.tree.MethodInvocationTree;
import com.sun.source.tree.MethodTree;
import com.sun.source.tree.NewArrayTree;
import com.sun.source.tree.NewClassTree;
import com.sun.source.tree.ThrowTree;
import com.sun.source.tree.Tree;
import com.sun.source.tree.TryTree;
import com.sun.source.tree.VariableTree;
import com.sun.source.util.JavacTask;
import com.sun.source.util.TreePathScanner;
import com.sun.source.util.Trees;
import java.io.IOException;
import java.nio.file.Files;
import java.nio.file.Path;
import java.util.ArrayList;
import java.util.HashMap;
import java.util.LinkedHashMap;
import java.util.LinkedHashSet;
import java.util.List;
import java.util.Map;
import java.util.Set;
import java.util.TreeSet;
import java.util.regex.Matcher;
import java.util.regex.Pattern;
import javax.lang.model.element.Element;
import javax.lang.model.element.ElementKind;
import javax.lang.model.element.ExecutableElement;
import javax.lang.model.element.Modifier;
import javax.lang.model.type.TypeMirror;
import javax.tools.JavaCompiler;
import javax.tools.StandardJavaFileManager;
import javax.tools.ToolProvider;

/**
 * What only the source shows: what "the interface says" ahead of which calls, and the rules of LANGUAGE.md, as far as
 * they can be told by looking at it. The class uses less than the rules allow (it catches nothing, for instance), and
 * the test holds it to that.
 */
public final class SourceTest {
    private static final Path SOURCE =
            Path.of(System.getProperty("project", "."), "src", "main", "java", "Cardcabinet.java");

    private static final String[] INTERFACE = {
        "---- laying cards", "type", "clearText", "fault", "lay", "put", "setSeed",
        "---- sorting", "sort", "sortAll", "sortPart", "sortDown", "sortBySecond", "sortByBoth",
        "---- other changes", "pour", "deal", "turn", "move", "thin", "single", "empty", "keep", "restore",
        "---- questions", "count", "cardAt", "placeOf", "placeFor", "isSorted", "runs", "longestRun", "wrongPairs",
        "unlike", "sum", "compare", "middle", "mean", "risingShare", "errors"};

    private static final Set<String> LIBRARY = Set.of("Math.min", "Math.max", "System.arraycopy", "String.length",
            "String.charAt");

    private static final Set<String> EXCEPTIONS = Set.of("IllegalStateException", "IllegalArgumentException",
            "IndexOutOfBoundsException", "NoSuchElementException");

    private static final int MOST_DEPTH = 8;

    private static int looks = 0;
    private static int wrong = 0;

    private static void due(boolean isRight, String fault) {
        looks++;
        if (!isRight) {
            wrong++;
            System.out.println(fault);
        }
    }

    /** The headings and the public methods, in the order in which they stand. */
    private static void dueInterface(List<String> lines) {
        Pattern pattern = Pattern.compile("    (?:// (---- .*)|public (?:int|long|double|float|boolean) (\\w+)\\(.*)");
        List<String> found = new ArrayList<>();
        for (String line : lines) {
            Matcher m = pattern.matcher(line);
            if (m.matches() && found.size() < INTERFACE.length) {
                found.add(m.group(1) != null ? m.group(1) : m.group(2));
            }
        }
        due(found.equals(List.of(INTERFACE)), "headings and calls stand otherwise: " + found);
    }

    private static void dueSigns(String text) {
        due(text.chars().allMatch(c -> c == '\n' || c >= 32 && c < 127), "rule 4: a sign that is not 32 to 126");
    }

    /** Looks at all of the source, and gathers which method calls which, and what each one throws itself. */
    private static final class Rules extends TreePathScanner<Void, Void> {
        final Trees trees;
        final CompilationUnitTree unit;
        final Set<String> publicNames = new TreeSet<>(List.of(INTERFACE));
        final Map<Element, MethodTree> methods = new LinkedHashMap<>();
        final Map<Element, Set<Element>> calls = new HashMap<>();
        final Map<Element, Set<String>> thrown = new HashMap<>();
        int classes = 0;
        MethodTree method;

        Rules(Trees trees, CompilationUnitTree unit) {
            this.trees = trees;
            this.unit = unit;
        }

        Element element(Tree tree) {
            return trees.getElement(trees.getPath(unit, tree));
        }

        String place(Tree tree) {
            long at = trees.getSourcePositions().getStartPosition(unit, tree);
            return "line " + unit.getLineMap().getLineNumber(at);
        }

        long lines(Tree tree) {
            long start = trees.getSourcePositions().getStartPosition(unit, tree);
            long end = trees.getSourcePositions().getEndPosition(unit, tree);
            return unit.getLineMap().getLineNumber(end) - unit.getLineMap().getLineNumber(start) + 1;
        }

        boolean isConstructor() {
            return method != null && element(method).getKind() == ElementKind.CONSTRUCTOR;
        }

        @Override
        public Void visitClass(ClassTree tree, Void none) {
            classes++;
            Element element = element(tree);
            Element around = element.getEnclosingElement();
            due(around.getKind() != ElementKind.METHOD, "rule 2: a local class, " + place(tree));
            if (around.getKind() != ElementKind.PACKAGE) {
                Set<Modifier> modifiers = element.getModifiers();
                due(modifiers.contains(Modifier.STATIC) && !modifiers.contains(Modifier.PUBLIC)
                        && !modifiers.contains(Modifier.PROTECTED), "rule 1: a class inside, " + place(tree));
            }
            int fields = 0;
            for (Tree member : tree.getMembers()) {
                boolean isBlock = member instanceof BlockTree;
                due(!isBlock, "rule 5: a block that initialises, " + place(member));
                if (member instanceof VariableTree field) {
                    Set<Modifier> modifiers = field.getModifiers().getFlags();
                    boolean isStatic = element(field).getModifiers().contains(Modifier.STATIC);
                    due(!isStatic || element(field).getModifiers().contains(Modifier.FINAL),
                            "rule 5: a static field that is not final, " + place(field));
                    fields += modifiers.contains(Modifier.STATIC) ? 0 : 1;
                }
            }
            due(fields <= 20, "rule 11: too many fields, " + place(tree));
            return super.visitClass(tree, none);
        }

        @Override
        public Void visitMethod(MethodTree tree, Void none) {
            Element element = element(tree);
            String name = tree.getName().toString();
            methods.put(element, tree);
            calls.put(element, new LinkedHashSet<>());
            thrown.put(element, new TreeSet<>());
            due(tree.getParameters().size() <= 7, "rule 11: too many parameters, " + place(tree));
            due(lines(tree) <= 60, "rule 11: a long method, " + place(tree));
            due(element.getModifiers().contains(Modifier.PUBLIC) || !publicNames.contains(name),
                    "rule 1: a method that is not public bears the name of one that is, " + place(tree));
            due(!Set.of("equals", "hashCode", "toString").contains(name), "rule 6: " + name + ", " + place(tree));
            MethodTree outer = method;
            method = tree;
            super.visitMethod(tree, none);
            method = outer;
            return null;
        }

        @Override
        public Void visitMethodInvocation(MethodInvocationTree tree, Void none) {
            called(element(tree), tree);
            return super.visitMethodInvocation(tree, none);
        }

        /** A method of the library has to be one that is listed; for one of the program's own, who calls it is kept. */
        void called(Element called, Tree tree) {
            String owner = called.getEnclosingElement().toString();
            if (owner.startsWith("Cardcabinet")) {
                if (method != null) {
                    calls.get(element(method)).add(called);
                }
                return;
            }
            String name = called.getEnclosingElement().getSimpleName() + "." + called.getSimpleName();
            boolean isSuper = called.getSimpleName().contentEquals("<init>");
            due(isSuper || LIBRARY.contains(name), "rule 4: " + name + ", " + place(tree));
        }

        @Override
        public Void visitNewClass(NewClassTree tree, Void none) {
            boolean isThrown = getCurrentPath().getParentPath().getLeaf() instanceof ThrowTree;
            due(isThrown || method == null || isConstructor(), "README: a call makes an object, " + place(tree));
            if (!isThrown) {
                called(element(tree), tree);
            }
            return super.visitNewClass(tree, none);
        }

        @Override
        public Void visitNewArray(NewArrayTree tree, Void none) {
            due(method == null || isConstructor(), "README: a call makes an array, " + place(tree));
            return super.visitNewArray(tree, none);
        }

        @Override
        public Void visitThrow(ThrowTree tree, Void none) {
            due(tree.getExpression() instanceof NewClassTree, "rule 6: a throw without new, " + place(tree));
            due(!isConstructor(), "rule 6: a throw in a constructor, " + place(tree));
            if (tree.getExpression() instanceof NewClassTree made && method != null) {
                String name = made.getIdentifier().toString();
                due(EXCEPTIONS.contains(name), "rule 6: " + name + ", " + place(tree));
                thrown.get(element(method)).add(name);
            }
            return super.visitThrow(tree, none);
        }

        @Override
        public Void visitTry(TryTree tree, Void none) {
            due(false, "what the machine throws could be caught, " + place(tree));
            return super.visitTry(tree, none);
        }

        @Override
        public Void visitLambdaExpression(LambdaExpressionTree tree, Void none) {
            due(false, "rule 2: a lambda, " + place(tree));
            return super.visitLambdaExpression(tree, none);
        }

        @Override
        public Void visitMemberReference(MemberReferenceTree tree, Void none) {
            due(false, "rule 2: a method reference, " + place(tree));
            return super.visitMemberReference(tree, none);
        }

        @Override
        public Void visitBinary(BinaryTree tree, Void none) {
            TypeMirror type = trees.getTypeMirror(trees.getPath(unit, tree));
            due(!type.toString().equals("java.lang.String"), "rule 10: texts joined by +, " + place(tree));
            return super.visitBinary(tree, none);
        }

        /** How many calls stand open at most, from this method on; a method that comes back to itself has no end. */
        int depth(Element from, List<Element> open) {
            due(!open.contains(from), "rule 8: " + from + " calls itself");
            if (open.contains(from)) {
                return 1;
            }
            open.add(from);
            int deepest = 0;
            for (Element called : calls.getOrDefault(from, Set.of())) {
                deepest = Math.max(deepest, depth(called, open));
            }
            open.remove(from);
            return deepest + 1;
        }

        Set<String> allThrown(Element from, int depth) {
            Set<String> all = new TreeSet<>(thrown.getOrDefault(from, Set.of()));
            for (Element called : depth < MOST_DEPTH ? calls.getOrDefault(from, Set.of()) : Set.<Element>of()) {
                all.addAll(allThrown(called, depth + 1));
            }
            return all;
        }
    }

    private static void dueRules(Rules rules) {
        due(rules.unit.getPackage() == null && rules.unit.getTypeDecls().size() == 1, "rule 1: one class, no package");
        due(rules.classes <= 12, "rule 11: " + rules.classes + " classes");
        for (Map.Entry<Element, MethodTree> entry : rules.methods.entrySet()) {
            Element method = entry.getKey();
            due(rules.depth(method, new ArrayList<>()) <= MOST_DEPTH, "rule 11: calls go too deep from " + method);
            if (method.getModifiers().contains(Modifier.PUBLIC) && method.getKind() == ElementKind.METHOD) {
                Set<String> told = new TreeSet<>();
                for (TypeMirror type : ((ExecutableElement) method).getThrownTypes()) {
                    told.add(type.toString().replaceAll(".*\\.", ""));
                }
                Set<String> all = rules.allThrown(method, 1);
                due(told.equals(all), "rule 6: " + method + " throws " + all + ", and tells " + told);
            }
        }
    }

    public static void main(String[] args) throws IOException {
        String text = Files.readString(SOURCE);
        dueSigns(text);
        dueInterface(text.lines().toList());
        JavaCompiler compiler = ToolProvider.getSystemJavaCompiler();
        try (StandardJavaFileManager files = compiler.getStandardFileManager(null, null, null)) {
            JavacTask task = (JavacTask) compiler.getTask(null, files, null, List.of("-proc:none"), null,
                    files.getJavaFileObjects(SOURCE));
            CompilationUnitTree unit = task.parse().iterator().next();
            task.analyze();
            Rules rules = new Rules(Trees.instance(task), unit);
            rules.scan(unit, null);
            dueRules(rules);
        }
        System.out.println(looks + " looks at the source, " + wrong + " wrong");
        if (wrong != 0) {
            System.exit(1);
        }
    }
}
