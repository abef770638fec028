import com.sun.source.tree.AssertTree;
import com.sun.source.tree.CatchTree;
import com.sun.source.tree.ClassTree;
import com.sun.source.tree.CompilationUnitTree;
import com.sun.source.tree.ImportTree;
import com.sun.source.tree.LambdaExpressionTree;
import com.sun.source.tree.LineMap;
import com.sun.source.tree.MemberReferenceTree;
import com.sun.source.tree.MethodInvocationTree;
import com.sun.source.tree.MethodTree;
import com.sun.source.tree.NewClassTree;
import com.sun.source.tree.SynchronizedTree;
import com.sun.source.tree.ThrowTree;
import com.sun.source.tree.Tree;
import com.sun.source.tree.TryTree;
import com.sun.source.util.JavacTask;
import com.sun.source.util.TreePathScanner;
import com.sun.source.util.Trees;
import java.nio.file.Files;
import java.nio.file.Path;
import java.util.ArrayList;
import java.util.HashMap;
import java.util.LinkedHashSet;
import java.util.List;
import java.util.Map;
import java.util.Set;
import java.util.TreeSet;
import javax.lang.model.element.Element;
import javax.lang.model.element.ElementKind;
import javax.lang.model.element.ExecutableElement;
import javax.lang.model.element.Modifier;
import javax.lang.model.element.NestingKind;
import javax.lang.model.element.TypeElement;
import javax.lang.model.element.VariableElement;
import javax.tools.JavaCompiler;
import javax.tools.StandardJavaFileManager;
import javax.tools.ToolProvider;

/** Rules of LANGUAGE.md that a reader of the source can look after; the rule's number comes first. */
public final class LanguageTest {
    private static final Path SOURCE = Path.of("src/main/java/HoldOuts.java");
    private static final Path DOCUMENT = Path.of("../shared/DOC.md");
    private static final Set<String> LIBRARY = Set.of(
        "java.lang.String.length", "java.lang.String.charAt", "java.lang.String.indexOf",
        "java.lang.Integer.bitCount", "java.lang.Math.max", "java.lang.Math.min", "java.lang.Math.abs",
        "java.lang.System.arraycopy", "java.util.Arrays.fill");

    private static final List<String> faults = new ArrayList<>();
    private static final Map<Element, Set<Element>> calls = new HashMap<>();
    private static int classes = 0;

    public static void main(String[] args) throws Exception {
        JavaCompiler compiler = ToolProvider.getSystemJavaCompiler();
        try (StandardJavaFileManager files = compiler.getStandardFileManager(null, null, null)) {
            JavacTask task = (JavacTask) compiler.getTask(
                null, files, null, List.of("-proc:none"), null, files.getJavaFileObjects(SOURCE));
            List<CompilationUnitTree> units = new ArrayList<>();
            task.parse().forEach(units::add);
            task.analyze();
            for (CompilationUnitTree unit : units) {
                new Looker(Trees.instance(task), unit).scan(unit, null);
            }
        }
        lookAtText();
        lookAtFace();
        lookAtDepth();
        require(classes <= 12, "11", "there are " + classes + " classes");
        faults.forEach(System.out::println);
        System.out.println(faults.isEmpty() ? "language: no rule is broken" : "language: WRONG");
        if (!faults.isEmpty()) {
            System.exit(1);
        }
    }

    private static void require(boolean holds, String rule, String what) {
        if (!holds) {
            faults.add("rule " + rule + ": " + what);
        }
    }

    private static final class Looker extends TreePathScanner<Void, Void> {
        private final Trees trees;
        private final CompilationUnitTree unit;
        private Element method = null;

        Looker(Trees trees, CompilationUnitTree unit) {
            this.trees = trees;
            this.unit = unit;
        }

        private Element elementHere() {
            return trees.getElement(getCurrentPath());
        }

        @Override
        public Void visitImport(ImportTree tree, Void nothing) {
            String name = tree.getQualifiedIdentifier().toString();
            require(name.equals("java.util.Arrays"), "4", "import of " + name);
            return super.visitImport(tree, nothing);
        }

        @Override
        public Void visitClass(ClassTree tree, Void nothing) {
            classes++;
            TypeElement type = (TypeElement) elementHere();
            boolean isOuter = type.getNestingKind() == NestingKind.TOP_LEVEL;
            require(!isOuter || type.getModifiers().equals(Set.of(Modifier.PUBLIC, Modifier.FINAL)), "1", "the outer class");
            int fields = 0;
            for (Element member : type.getEnclosedElements()) {
                boolean isStatic = member.getModifiers().contains(Modifier.STATIC);
                if (member instanceof VariableElement) {
                    boolean isPrivate = member.getModifiers().contains(Modifier.PRIVATE);
                    boolean isFace = isOuter && member.getSimpleName().contentEquals("NONE");
                    require(isPrivate || isFace, "1", "the field " + member + " of " + type + " is not private");
                    require(!isStatic || member.getModifiers().contains(Modifier.FINAL), "5", "static " + member);
                    fields += isStatic ? 0 : 1;
                }
                if (member.getKind() == ElementKind.CLASS) {
                    require(isStatic && member.getModifiers().contains(Modifier.PRIVATE), "2", "class " + member);
                }
                require(member.getKind() != ElementKind.STATIC_INIT, "5", "a static block in " + type);
            }
            require(fields <= 20, "11", type + " has " + fields + " fields");
            return super.visitClass(tree, nothing);
        }

        @Override
        public Void visitMethod(MethodTree tree, Void nothing) {
            method = elementHere();
            calls.putIfAbsent(method, new LinkedHashSet<>());
            LineMap lines = unit.getLineMap();
            long start = trees.getSourcePositions().getStartPosition(unit, tree);
            long end = trees.getSourcePositions().getEndPosition(unit, tree);
            if (start >= 0 && end > start) {
                long length = lines.getLineNumber(end) - lines.getLineNumber(start) + 1;
                require(length <= 60, "11", tree.getName() + " has " + length + " lines");
            }
            require(tree.getParameters().size() <= 7, "11", tree.getName() + " has too many parameters");
            return super.visitMethod(tree, nothing);
        }

        @Override
        public Void visitMethodInvocation(MethodInvocationTree tree, Void nothing) {
            addCall();
            return super.visitMethodInvocation(tree, nothing);
        }

        @Override
        public Void visitNewClass(NewClassTree tree, Void nothing) {
            addCall();
            return super.visitNewClass(tree, nothing);
        }

        private void addCall() {
            Element called = elementHere();
            String owner = called.getEnclosingElement().toString();
            if (owner.startsWith("HoldOuts")) {
                if (method != null) {
                    calls.get(method).add(called);
                }
            } else if (called.getKind() == ElementKind.METHOD) {
                String name = owner + "." + called.getSimpleName();
                require(LIBRARY.contains(name), "4", "call of " + name);
            } else {
                require(owner.equals("java.lang.Object"), "4", "new " + owner);
            }
        }

        private Void refused(Tree tree, String rule) {
            long line = unit.getLineMap().getLineNumber(trees.getSourcePositions().getStartPosition(unit, tree));
            require(false, rule, tree.getKind() + " in line " + line);
            return null;
        }

        @Override
        public Void visitThrow(ThrowTree tree, Void nothing) {
            return refused(tree, "6");
        }

        @Override
        public Void visitTry(TryTree tree, Void nothing) {
            return refused(tree, "6");
        }

        @Override
        public Void visitCatch(CatchTree tree, Void nothing) {
            return refused(tree, "6");
        }

        @Override
        public Void visitSynchronized(SynchronizedTree tree, Void nothing) {
            return refused(tree, "6");
        }

        @Override
        public Void visitAssert(AssertTree tree, Void nothing) {
            return refused(tree, "6");
        }

        @Override
        public Void visitLambdaExpression(LambdaExpressionTree tree, Void nothing) {
            return refused(tree, "2");
        }

        @Override
        public Void visitMemberReference(MemberReferenceTree tree, Void nothing) {
            return refused(tree, "2");
        }
    }

    private static void lookAtText() throws Exception {
        String text = Files.readString(SOURCE);
        require(text.chars().allMatch(c -> c == '\n' || c >= 32 && c < 127), "4", "signs other than 32 to 126");
        require(!text.contains("package "), "1", "a package line");
        require(!text.contains("double") && !text.contains("float"), "3", "doubles aren't needed here");
    }

    /** The face is the document's, to the letter; no private method has one of its names. */
    private static void lookAtFace() throws Exception {
        Set<String> wanted = new TreeSet<>();
        Set<String> names = new TreeSet<>();
        boolean inside = false;
        for (String line : Files.readAllLines(DOCUMENT)) {
            inside = inside ? !line.equals("}") : line.startsWith("public final class HoldOuts");
            if (inside && line.startsWith("    public ") && line.endsWith(");") && !line.contains("HoldOuts()")) {
                wanted.add(line.trim().replaceAll(" [a-z0-9]+(?=[,)])", "").replace("public ", "").replace(";", ""));
                names.add(line.replaceAll("\\(.*", "").replaceAll(".* ", ""));
            }
        }
        require(wanted.size() == 33, "1", "the document's face was not found: " + wanted.size());
        Set<String> found = new TreeSet<>();
        for (Map.Entry<Element, Set<Element>> entry : calls.entrySet()) {
            ExecutableElement element = (ExecutableElement) entry.getKey();
            boolean isPrivate = element.getModifiers().contains(Modifier.PRIVATE);
            boolean isFace = element.getModifiers().contains(Modifier.PUBLIC)
                && element.getEnclosingElement().toString().equals("HoldOuts");
            if (isFace && element.getKind() == ElementKind.METHOD) {
                found.add(element.getReturnType() + " " + element.toString().replace(",", ", "));
            } else if (element.getKind() == ElementKind.METHOD) {
                require(isPrivate, "1", element + " is not private");
                require(!names.contains(element.getSimpleName().toString()), "1", element + " bears a public name");
            }
        }
        require(found.equals(wanted), "1", "the face is " + found + ", due is " + wanted);
    }

    /** Calls without those of recursion: a ring of methods counts as one. */
    private static void lookAtDepth() {
        Map<Element, Set<Element>> reached = new HashMap<>();
        for (Element method : calls.keySet()) {
            Set<Element> all = new LinkedHashSet<>();
            List<Element> open = new ArrayList<>(calls.get(method));
            while (!open.isEmpty()) {
                Element next = open.remove(open.size() - 1);
                if (all.add(next)) {
                    open.addAll(calls.getOrDefault(next, Set.of()));
                }
            }
            reached.put(method, all);
        }
        int deepest = 0;
        for (Element method : calls.keySet()) {
            int depth = depthOf(method, reached, new LinkedHashSet<>());
            require(depth <= 8, "11", method + " goes " + depth + " deep");
            deepest = Math.max(deepest, depth);
        }
        System.out.println("language: calls go " + deepest + " deep, " + classes + " classes");
    }

    private static int depthOf(Element method, Map<Element, Set<Element>> reached, Set<Element> ring) {
        int deepest = 0;
        Set<Element> next = new LinkedHashSet<>();
        Set<Element> here = new LinkedHashSet<>(List.of(method));
        for (Element other : reached.getOrDefault(method, Set.of())) {
            if (reached.getOrDefault(other, Set.of()).contains(method)) {
                here.add(other);
            }
        }
        for (Element member : here) {
            next.addAll(calls.getOrDefault(member, Set.of()));
        }
        next.removeAll(here);
        for (Element called : next) {
            deepest = Math.max(deepest, depthOf(called, reached, ring));
        }
        return deepest + 1;
    }
}
