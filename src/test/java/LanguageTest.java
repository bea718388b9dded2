import com.sun.source.tree.BlockTree;
import com.sun.source.tree.ClassTree;
import com.sun.source.tree.CompilationUnitTree;
import com.sun.source.tree.ImportTree;
import com.sun.source.tree.MethodInvocationTree;
import com.sun.source.tree.MethodTree;
import com.sun.source.tree.NewClassTree;
import com.sun.source.tree.Tree;
import com.sun.source.tree.VariableTree;
import com.sun.source.util.JavacTask;
import com.sun.source.util.SourcePositions;
import com.sun.source.util.TreePathScanner;
import com.sun.source.util.Trees;
import java.io.File;
import java.io.IOException;
import java.util.ArrayDeque;
import java.util.Deque;
import java.util.HashMap;
import java.util.LinkedHashSet;
import java.util.List;
import java.util.Map;
import java.util.Set;
import javax.lang.model.element.Element;
import javax.lang.model.element.ElementKind;
import javax.lang.model.element.Modifier;
import javax.tools.JavaCompiler;
import javax.tools.StandardJavaFileManager;
import javax.tools.ToolProvider;

/** The rules of ../shared/LANGUAGE.md that can be seen in the source; FaceTest looks at rule 1, RoomTest at rule 12. */
public final class LanguageTest extends TreePathScanner<Void, Void> {
  /** Of what rule 4 allows, the part that the class needs. */
  private static final Set<String> LIBRARY = Set.of("java.lang.System.arraycopy", "java.util.Arrays.fill",
      "java.util.Arrays.copyOf", "java.util.Arrays.copyOfRange", "java.lang.Object.<init>");
  private static final Set<String> IMPORTS = Set.of("java.util.Arrays");
  private static final Set<String> CONSTANTS = Set.of("int", "long", "boolean", "char", "String", "int[]", "long[]",
      "char[]", "byte[]");
  /** What the rules forbid; exceptions too, for the document names none, and doubles, for it has no use for them. */
  private static final Set<Tree.Kind> FORBIDDEN = Set.of(Tree.Kind.LAMBDA_EXPRESSION, Tree.Kind.MEMBER_REFERENCE,
      Tree.Kind.TRY, Tree.Kind.THROW, Tree.Kind.SYNCHRONIZED, Tree.Kind.ASSERT, Tree.Kind.DOUBLE_LITERAL,
      Tree.Kind.FLOAT_LITERAL);

  private final Check check;
  private final Trees trees;
  private final Deque<Element> inside = new ArrayDeque<>();
  /** What a method calls; under a class, what its fields' initialisers call. */
  private final Map<Element, Set<Element>> calls = new HashMap<>();
  private final Map<Element, Integer> depths = new HashMap<>();
  private int classes = 0;

  private LanguageTest(Check check, Trees trees) {
    this.check = check;
    this.trees = trees;
  }

  public static void main(String[] args) throws IOException {
    Check check = new Check();
    JavaCompiler compiler = ToolProvider.getSystemJavaCompiler();
    try (StandardJavaFileManager files = compiler.getStandardFileManager(null, null, null)) {
      JavacTask task = (JavacTask) compiler.getTask(null, files, null, List.of("--release", "17"), null,
          files.getJavaFileObjects(new File("src/main/java/PurseCard.java")));
      LanguageTest test = new LanguageTest(check, Trees.instance(task));
      for (CompilationUnitTree unit : task.parse()) {
        task.analyze();
        check.due("a package line stands there", unit.getPackage() != null, false);
        check.due("classes beside the public one", unit.getTypeDecls().size(), 1);
        test.scan(unit, null);
      }
      test.whole();
    }
    check.end();
  }

  private void whole() {
    most("classes", classes, 12);
    for (Element method : calls.keySet()) {
      most("calls deep from " + method, depth(method, 1), 8);
    }
  }

  /** A method that calls itself would never come to an end here, and is stopped at a depth that no rule allows. */
  private int depth(Element method, int level) {
    if (level > 20 || !calls.containsKey(method)) {
      return level > 20 ? level : 0;
    }
    if (!depths.containsKey(method)) {
      Set<Element> all = new LinkedHashSet<>(calls.get(method));
      if (method.getKind() == ElementKind.CONSTRUCTOR) {
        all.addAll(calls.get(method.getEnclosingElement()));
      }
      int deepest = 0;
      for (Element called : all) {
        deepest = Math.max(deepest, depth(called, level + 1));
      }
      depths.put(method, 1 + deepest);
    }
    return depths.get(method);
  }

  @Override
  public Void scan(Tree tree, Void none) {
    if (tree != null) {
      check.due("rules 2, 3, 6: a " + tree.getKind() + " stands there", FORBIDDEN.contains(tree.getKind()), false);
    }
    return super.scan(tree, none);
  }

  @Override
  public Void visitImport(ImportTree tree, Void none) {
    String name = tree.getQualifiedIdentifier().toString();
    check.due("rule 4: import of " + name, IMPORTS.contains(name), true);
    return super.visitImport(tree, none);
  }

  @Override
  public Void visitClass(ClassTree tree, Void none) {
    classes++;
    int fields = 0;
    for (Tree member : tree.getMembers()) {
      check.due("rule 5: an initialiser block in " + tree.getSimpleName(), member instanceof BlockTree, false);
      if (member instanceof VariableTree field) {
        boolean isStatic = field.getModifiers().getFlags().contains(Modifier.STATIC);
        fields += isStatic ? 0 : 1;
        check.due("rule 5: " + field.getName(), !isStatic || isConstant(field), true);
      }
    }
    most("fields of " + tree.getSimpleName(), fields, 20);
    within(() -> super.visitClass(tree, none));
    return null;
  }

  private static boolean isConstant(VariableTree field) {
    return field.getModifiers().getFlags().contains(Modifier.FINAL) && CONSTANTS.contains(field.getType().toString());
  }

  @Override
  public Void visitMethod(MethodTree tree, Void none) {
    most("parameters of " + tree.getName(), tree.getParameters().size(), 7);
    most("lines of " + tree.getName(), lines(tree), 60);
    within(() -> super.visitMethod(tree, none));
    return null;
  }

  private void within(Runnable visit) {
    Element here = trees.getElement(getCurrentPath());
    calls.put(here, new LinkedHashSet<>());
    inside.push(here);
    visit.run();
    inside.pop();
  }

  private long lines(Tree tree) {
    CompilationUnitTree unit = getCurrentPath().getCompilationUnit();
    SourcePositions places = trees.getSourcePositions();
    return unit.getLineMap().getLineNumber(places.getEndPosition(unit, tree))
        - unit.getLineMap().getLineNumber(places.getStartPosition(unit, tree)) + 1;
  }

  @Override
  public Void visitMethodInvocation(MethodInvocationTree tree, Void none) {
    called(trees.getElement(getCurrentPath()));
    return super.visitMethodInvocation(tree, none);
  }

  @Override
  public Void visitNewClass(NewClassTree tree, Void none) {
    called(trees.getElement(getCurrentPath()));
    return super.visitNewClass(tree, none);
  }

  private void called(Element method) {
    String owner = method.getEnclosingElement().toString();
    if (owner.startsWith("PurseCard")) {
      calls.get(inside.peek()).add(method);
      return;
    }
    String name = owner + "." + method.getSimpleName();
    check.due("rule 4: call of " + name, LIBRARY.contains(name), true);
  }

  private void most(String what, long got, long limit) {
    check.due("rules 8, 11: " + what + ": " + got + " keeps to " + limit, got <= limit, true);
  }
}
