import com.sun.source.tree.AssertTree;
import com.sun.source.tree.BinaryTree;
import com.sun.source.tree.ClassTree;
import com.sun.source.tree.CompilationUnitTree;
import com.sun.source.tree.LambdaExpressionTree;
import com.sun.source.tree.LiteralTree;
import com.sun.source.tree.MemberReferenceTree;
import com.sun.source.tree.MethodInvocationTree;
import com.sun.source.tree.MethodTree;
import com.sun.source.tree.NewClassTree;
import com.sun.source.tree.SynchronizedTree;
import com.sun.source.tree.ThrowTree;
import com.sun.source.tree.Tree;
import com.sun.source.tree.TryTree;
import com.sun.source.tree.VariableTree;
import com.sun.source.util.JavacTask;
import com.sun.source.util.SourcePositions;
import com.sun.source.util.TreePathScanner;
import com.sun.source.util.Trees;
import java.nio.file.Files;
import java.nio.file.Path;
import java.util.HashMap;
import java.util.HashSet;
import java.util.List;
import java.util.Map;
import java.util.Set;
import java.util.TreeSet;
import java.util.regex.Matcher;
import java.util.regex.Pattern;
import javax.lang.model.element.Element;
import javax.lang.model.element.ExecutableElement;
import javax.lang.model.element.Modifier;
import javax.lang.model.element.TypeElement;
import javax.tools.JavaCompiler;
import javax.tools.StandardJavaFileManager;
import javax.tools.ToolProvider;

/** The rules of LANGUAGE.md that the source itself can show. */
final class LanguageTest extends TreePathScanner<Void, Void> {
    private static final Path SOURCE = Path.of("src/main/java/TuneAndWords.java");
    private static final Path DOC = Path.of("../shared/DOC.md");
    private static final Set<String> LIBRARY = Set.of("String.length", "String.charAt", "Arrays.fill",
            "System.arraycopy", "Integer.bitCount", "Math.min", "Math.max", "Object.<init>");

    private final Trees trees;
    private final SourcePositions places;
    private final CompilationUnitTree unit;
    private final Set<String> face = new TreeSet<>();
    private final Set<String> publicNames = new HashSet<>();
    private final Map<ExecutableElement, Set<ExecutableElement>> calls = new HashMap<>();
    private int classes = 0;

    private LanguageTest(Trees trees, CompilationUnitTree unit) {
        this.trees = trees;
        this.unit = unit;
        places = trees.getSourcePositions();
    }

    public static void main(String[] args) throws Exception {
        JavaCompiler compiler = ToolProvider.getSystemJavaCompiler();
        StandardJavaFileManager files = compiler.getStandardFileManager(null, null, null);
        JavacTask task = (JavacTask) compiler.getTask(null, files, null, List.of("-proc:none"), null,
                files.getJavaFileObjects(SOURCE));
        CompilationUnitTree unit = task.parse().iterator().next();
        task.analyze();
        LanguageTest test = new LanguageTest(Trees.instance(task), unit);
        test.readFace(Files.readString(DOC));
        test.scan(unit, null);
        Check.holds("one class in the file, no package", unit.getTypeDecls().size() == 1 && unit.getPackageName() == null);
        Check.holds("some twelve classes: " + test.classes, test.classes <= 12);
        test.lookAtCalls();
        lookAtSigns(Files.readString(SOURCE));
        Check.end("LanguageTest");
    }

    /** The names and kinds of the document's face, as "int line/2". */
    private void readFace(String doc) {
        String block = doc.substring(doc.indexOf("```java"), doc.indexOf("## Terms"));
        Matcher m = Pattern.compile("public (int|long) (\\w+)\\(([^)]*)\\);").matcher(block);
        while (m.find()) {
            face.add(m.group(1) + " " + m.group(2) + "(" + m.group(3).replaceAll("(int|long) \\w+", "$1").replace(" ", "") + ")");
            publicNames.add(m.group(2));
        }
        Check.due("methods of the face", 37, face.size());
    }

    private void holds(String rule, Tree at, boolean so) {
        long line = unit.getLineMap().getLineNumber(places.getStartPosition(unit, at));
        Check.holds("line " + line + ": " + rule, so);
    }

    private Element element() {
        return trees.getElement(getCurrentPath());
    }

    @Override
    public Void visitClass(ClassTree c, Void v) {
        classes++;
        Element e = element();
        boolean outer = e.getEnclosingElement().getKind() == javax.lang.model.element.ElementKind.PACKAGE;
        Set<Modifier> has = e.getModifiers();
        if (outer) {
            holds("1: public and final", c, has.contains(Modifier.PUBLIC) && has.contains(Modifier.FINAL));
            lookAtFace(c, e);
        } else {
            holds("1, 2: static, not public or protected", c, has.contains(Modifier.STATIC)
                    && !has.contains(Modifier.PUBLIC) && !has.contains(Modifier.PROTECTED));
            holds("2: no local or anonymous class", c, e.getEnclosingElement() instanceof TypeElement);
        }
        int fields = 0;
        for (Element member : e.getEnclosedElements()) {
            if (member.getKind().isField() && !member.getModifiers().contains(Modifier.STATIC)) fields++;
            boolean named = member instanceof ExecutableElement && publicNames.contains(member.getSimpleName().toString());
            holds("1: no other method bears a public name: " + member, c, outer && member.getModifiers().contains(Modifier.PUBLIC) || !named);
        }
        holds("11: some twenty fields: " + fields, c, fields <= 20);
        return super.visitClass(c, v);
    }

    private void lookAtFace(ClassTree c, Element e) {
        Set<String> found = new TreeSet<>();
        for (Element member : e.getEnclosedElements()) {
            Set<Modifier> has = member.getModifiers();
            boolean isClass = member instanceof TypeElement;
            holds("1: public or private: " + member, c, isClass || has.contains(Modifier.PUBLIC) || has.contains(Modifier.PRIVATE));
            if (!has.contains(Modifier.PUBLIC)) continue;
            if (member instanceof ExecutableElement && !member.getSimpleName().contentEquals("<init>")) {
                found.add(((ExecutableElement) member).getReturnType() + " " + member);
            } else if (!member.toString().equals("TuneAndWords()")) {
                holds("1: a constant of the face: " + member, c,
                        Set.of("BAD", "NOT", "FULL", "STATE", "VOID").contains(member.toString()));
            }
        }
        Check.holds("1: the face is " + found + ", due is " + face, found.equals(face));
    }

    @Override
    public Void visitVariable(VariableTree t, Void v) {
        Element e = element();
        if (e.getKind().isField() && e.getModifiers().contains(Modifier.STATIC)) {
            String type = e.asType().toString();
            holds("5: a constant", t, e.getModifiers().contains(Modifier.FINAL)
                    && Set.of("int", "long", "boolean", "char", "java.lang.String", "int[]", "long[]").contains(type));
            holds("5: written out", t, t.getInitializer() != null);
        }
        String type = e.asType().toString();
        holds("3: no third dimension, no double: " + type, t, !type.contains("[][][]") && !type.contains("double")
                && !type.contains("float") && !type.contains("boolean[]"));
        return super.visitVariable(t, v);
    }

    @Override
    public Void visitMethod(MethodTree m, Void v) {
        holds("11: at most seven parameters", m, m.getParameters().size() <= 7);
        if (places.getStartPosition(unit, m) >= 0) {
            long from = unit.getLineMap().getLineNumber(places.getStartPosition(unit, m));
            long to = unit.getLineMap().getLineNumber(Math.max(0, places.getEndPosition(unit, m)));
            holds("11: some sixty lines", m, to - from < 60);
        }
        calls.putIfAbsent((ExecutableElement) element(), new HashSet<>());
        return super.visitMethod(m, v);
    }

    private void called(Tree at, Element e) {
        ExecutableElement m = (ExecutableElement) e;
        TypeElement owner = (TypeElement) m.getEnclosingElement();
        if (owner.getQualifiedName().toString().startsWith("java.")) {
            String name = owner.getSimpleName() + "." + m.getSimpleName();
            holds("4: the library: " + name, at, LIBRARY.contains(name));
            return;
        }
        for (var path = getCurrentPath(); path != null; path = path.getParentPath()) {
            if (path.getLeaf() instanceof MethodTree) {
                calls.computeIfAbsent((ExecutableElement) trees.getElement(path), k -> new HashSet<>()).add(m);
                return;
            }
        }
    }

    @Override
    public Void visitMethodInvocation(MethodInvocationTree t, Void v) {
        called(t, element());
        return super.visitMethodInvocation(t, v);
    }

    @Override
    public Void visitNewClass(NewClassTree t, Void v) {
        holds("2: no anonymous class", t, t.getClassBody() == null);
        called(t, element());
        return super.visitNewClass(t, v);
    }

    @Override
    public Void visitLambdaExpression(LambdaExpressionTree t, Void v) {
        holds("2: no lambda", t, false);
        return null;
    }

    @Override
    public Void visitMemberReference(MemberReferenceTree t, Void v) {
        holds("2: no method reference", t, false);
        return null;
    }

    @Override
    public Void visitThrow(ThrowTree t, Void v) {
        holds("6: no throw", t, false);
        return null;
    }

    @Override
    public Void visitTry(TryTree t, Void v) {
        holds("6: no try", t, false);
        return null;
    }

    @Override
    public Void visitSynchronized(SynchronizedTree t, Void v) {
        holds("6: no synchronized", t, false);
        return null;
    }

    @Override
    public Void visitAssert(AssertTree t, Void v) {
        holds("6: no assert", t, false);
        return null;
    }

    @Override
    public Void visitBinary(BinaryTree t, Void v) {
        Object type = trees.getTypeMirror(getCurrentPath());
        holds("10: no joining by +", t, type == null || !type.toString().contains("String"));
        return super.visitBinary(t, v);
    }

    @Override
    public Void visitLiteral(LiteralTree t, Void v) {
        String signs = t.getValue() instanceof String || t.getValue() instanceof Character ? t.getValue().toString() : "";
        for (char c : signs.toCharArray()) holds("4: signs 1 to 127", t, c >= 1 && c <= 127);
        return null;
    }

    private static void lookAtSigns(String source) {
        for (int i = 0; i < source.length(); i++) {
            if (source.charAt(i) > 126) Check.holds("a sign above 126 at " + i, false);
        }
    }

    // ---- how calls go from one to another

    private Set<ExecutableElement> reached(ExecutableElement from) {
        Set<ExecutableElement> all = new HashSet<>();
        List<ExecutableElement> due = new java.util.ArrayList<>(calls.getOrDefault(from, Set.of()));
        while (!due.isEmpty()) {
            ExecutableElement m = due.remove(due.size() - 1);
            if (all.add(m)) due.addAll(calls.getOrDefault(m, Set.of()));
        }
        return all;
    }

    private void lookAtCalls() {
        Map<ExecutableElement, Set<ExecutableElement>> reached = new HashMap<>();
        for (ExecutableElement m : calls.keySet()) reached.put(m, reached(m));
        int deepest = 0;
        for (ExecutableElement m : calls.keySet()) {
            boolean recursive = reached.get(m).contains(m);
            Check.holds("8: private, as it calls itself: " + m, !recursive || m.getModifiers().contains(Modifier.PRIVATE));
            Check.holds("1: a method that nobody calls: " + m, m.getModifiers().contains(Modifier.PUBLIC)
                    || m.getSimpleName().contentEquals("<init>")
                    || calls.values().stream().anyMatch(s -> s.contains(m)));
            deepest = Math.max(deepest, depth(m, reached, new HashMap<>()));
        }
        Check.holds("11: calls go at most eight deep: " + deepest, deepest <= 8);
    }

    /** The longest chain of calls from a method on; those that call one another count as one. */
    private int depth(ExecutableElement m, Map<ExecutableElement, Set<ExecutableElement>> reached,
            Map<ExecutableElement, Integer> known) {
        if (known.containsKey(m)) return known.get(m);
        Set<ExecutableElement> group = new HashSet<>(Set.of(m));
        for (ExecutableElement n : reached.getOrDefault(m, Set.of())) {
            if (reached.getOrDefault(n, Set.of()).contains(m)) group.add(n);
        }
        int most = 0;
        for (ExecutableElement of : group) {
            for (ExecutableElement n : calls.getOrDefault(of, Set.of())) {
                if (!group.contains(n)) most = Math.max(most, depth(n, reached, known));
            }
        }
        known.put(m, most + 1);
        return most + 1;
    }
}
