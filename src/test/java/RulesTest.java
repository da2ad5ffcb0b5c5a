import com.sun.source.tree.ClassTree;
import com.sun.source.tree.CompilationUnitTree;
import com.sun.source.tree.MethodInvocationTree;
import com.sun.source.tree.MethodTree;
import com.sun.source.tree.NewClassTree;
import com.sun.source.tree.Tree;
import com.sun.source.util.JavacTask;
import com.sun.source.util.SourcePositions;
import com.sun.source.util.TreePathScanner;
import com.sun.source.util.Trees;
import java.io.File;
import java.util.ArrayList;
import java.util.HashSet;
import java.util.LinkedHashMap;
import java.util.List;
import java.util.Map;
import java.util.Set;
import javax.lang.model.element.Element;
import javax.tools.JavaCompiler;
import javax.tools.StandardJavaFileManager;
import javax.tools.ToolProvider;

/** Rules of LANGUAGE.md for which the file has to be read as javac reads it: how deep calls go, how long methods are. */
public final class RulesTest {
  /** Of calls that are no recursion; those of the library are counted too. */
  private static final int DEEPEST = 8;
  private static final int LONGEST = 60;

  private static final Map<String, Set<String>> calls = new LinkedHashMap<>();

  public static void main(String[] args) throws Exception {
    JavaCompiler javac = ToolProvider.getSystemJavaCompiler();
    StandardJavaFileManager files = javac.getStandardFileManager(null, null, null);
    JavacTask task = (JavacTask) javac.getTask(null, files, null, List.of("-proc:none"), null,
        files.getJavaFileObjects(new File("src/main/java/OneGate.java")));
    Iterable<? extends CompilationUnitTree> units = task.parse();
    task.analyze();
    for (CompilationUnitTree unit : units) new Reader(Trees.instance(task), unit).scan(unit, null);
    Due.due("methods were read", calls.size() > 100 ? 1 : 0, 1);
    for (String method : calls.keySet()) {
      List<String> chain = deepest(method, new HashSet<>());
      Due.due(String.join(" > ", chain) + " is deep", chain.size() > DEEPEST ? chain.size() : 0, 0);
    }
    Due.end();
  }

  private static final class Reader extends TreePathScanner<Void, Void> {
    private final Trees trees;
    private final CompilationUnitTree unit;
    private Set<String> inside = new HashSet<>();

    Reader(Trees trees, CompilationUnitTree unit) {
      this.trees = trees;
      this.unit = unit;
    }

    @Override
    public Void visitClass(ClassTree tree, Void none) {
      for (Tree member : tree.getMembers()) {
        if (member.getKind() == Tree.Kind.BLOCK) Due.due("blocks of a class", 1, 0);
      }
      return super.visitClass(tree, none);
    }

    @Override
    public Void visitMethod(MethodTree tree, Void none) {
      String name = nameOf(trees.getElement(getCurrentPath()));
      inside = new HashSet<>();
      calls.put(name, inside);
      SourcePositions places = trees.getSourcePositions();
      long first = unit.getLineMap().getLineNumber(Math.max(0, places.getStartPosition(unit, tree)));
      long last = unit.getLineMap().getLineNumber(Math.max(0, places.getEndPosition(unit, tree)));
      Due.due(name + " is long", last - first + 1 > LONGEST ? last - first + 1 : 0, 0);
      return super.visitMethod(tree, none);
    }

    @Override
    public Void visitMethodInvocation(MethodInvocationTree tree, Void none) {
      inside.add(nameOf(trees.getElement(getCurrentPath())));
      return super.visitMethodInvocation(tree, none);
    }

    @Override
    public Void visitNewClass(NewClassTree tree, Void none) {
      inside.add(nameOf(trees.getElement(getCurrentPath())));
      return super.visitNewClass(tree, none);
    }

    private static String nameOf(Element element) {
      return element.getEnclosingElement() + "." + element;
    }
  }

  /** The longest chain of calls, with those left out that call themselves or one another. */
  private static List<String> deepest(String method, Set<String> open) {
    List<String> longest = new ArrayList<>();
    open.add(method);
    for (String next : calls.getOrDefault(method, Set.of())) {
      if (open.contains(next)) continue;
      List<String> chain = deepest(next, open);
      if (chain.size() > longest.size()) longest = chain;
    }
    open.remove(method);
    if (!reaches(method, method, new HashSet<>())) longest.add(0, method);
    return longest;
  }

  private static boolean reaches(String from, String to, Set<String> seen) {
    for (String next : calls.getOrDefault(from, Set.of())) {
      if (next.equals(to)) return true;
      if (seen.add(next) && reaches(next, to, seen)) return true;
    }
    return false;
  }
}
