import com.sun.source.tree.AssertTree;
import com.sun.source.tree.BinaryTree;
import com.sun.source.tree.BlockTree;
import com.sun.source.tree.ClassTree;
import com.sun.source.tree.CompilationUnitTree;
import com.sun.source.tree.ForLoopTree;
import com.sun.source.tree.ImportTree;
import com.sun.source.tree.LambdaExpressionTree;
import com.sun.source.tree.LineMap;
import com.sun.source.tree.MemberReferenceTree;
import com.sun.source.tree.MethodInvocationTree;
import com.sun.source.tree.MethodTree;
import com.sun.source.tree.NewArrayTree;
import com.sun.source.tree.NewClassTree;
import com.sun.source.tree.SynchronizedTree;
import com.sun.source.tree.ThrowTree;
import com.sun.source.tree.Tree;
import com.sun.source.tree.TryTree;
import com.sun.source.tree.TypeCastTree;
import com.sun.source.tree.VariableTree;
import com.sun.source.tree.WhileLoopTree;
import com.sun.source.util.JavacTask;
import com.sun.source.util.TreePath;
import com.sun.source.util.TreePathScanner;
import com.sun.source.util.Trees;
import java.io.File;
import java.io.IOException;
import java.util.LinkedHashMap;
import java.util.LinkedHashSet;
import java.util.List;
import java.util.Map;
import java.util.Set;
import javax.lang.model.element.Element;
import javax.lang.model.element.ElementKind;
import javax.lang.model.element.ExecutableElement;
import javax.lang.model.element.Modifier;
import javax.lang.model.element.NestingKind;
import javax.lang.model.element.TypeElement;
import javax.lang.model.type.TypeKind;
import javax.tools.JavaCompiler;
import javax.tools.StandardJavaFileManager;
import javax.tools.ToolProvider;

/**
 * The class keeps to ../shared/LANGUAGE.md, as far as its source tells. It is narrower where the
 * class can do with less: no casts, no while, and nothing is made outside of constructors.
 */
public final class LanguageTest extends TreePathScanner<Void, Void> {
  private static final String SOURCE = "src/main/java/DotsOnGrass.java";
  private static final Set<String> LIBRARY = Set.of("java.lang.Math.abs(int)",
      "java.lang.Math.max(int,int)", "java.lang.Math.min(int,int)",
      "java.util.Arrays.fill(int[],int)",
      "java.lang.System.arraycopy(java.lang.Object,int,java.lang.Object,int,int)",
      "java.lang.Object.Object()");
  private static final Set<String> TYPES =
      Set.of("int", "boolean", "int[]", "boolean[]", "int[][]", "void");

  private final Due t = new Due("language");
  private final Trees trees;
  private final CompilationUnitTree unit;
  private final LineMap lines;
  private final Map<Element, Set<Element>> calls = new LinkedHashMap<>();
  private ExecutableElement method;
  private int classes = 0;

  private LanguageTest(Trees trees, CompilationUnitTree unit) {
    this.trees = trees;
    this.unit = unit;
    lines = unit.getLineMap();
  }

  public static void main(String[] args) throws IOException {
    JavaCompiler compiler = ToolProvider.getSystemJavaCompiler();
    try (StandardJavaFileManager files = compiler.getStandardFileManager(null, null, null)) {
      JavacTask task = (JavacTask) compiler.getTask(null, files, null, List.of("-proc:none"), null,
          files.getJavaFileObjects(new File(SOURCE)));
      CompilationUnitTree unit = task.parse().iterator().next();
      task.analyze();
      LanguageTest test = new LanguageTest(Trees.instance(task), unit);
      test.scan(unit, null);
      test.wholeFile();
      test.t.end();
    }
  }

  private void wholeFile() {
    t.due("no package line", unit.getPackage() == null);
    t.due("rule 11: " + classes + " classes", classes <= 12);
    int deepest = 0;
    for (Element caller : calls.keySet()) {
      deepest = Math.max(deepest, depthOf(caller, new LinkedHashSet<>()));
    }
    t.due("rule 11: calls go " + deepest + " deep", deepest <= 8);
  }

  /** How many calls stand open at once, from this one on; one that calls itself counts once. */
  private int depthOf(Element caller, Set<Element> open) {
    if (!open.add(caller)) {
      t.due("rule 8: " + caller + " calls itself through another one", false);
      return 0;
    }
    int below = 0;
    for (Element called : calls.getOrDefault(caller, Set.of())) {
      if (!called.equals(caller)) {
        below = Math.max(below, depthOf(called, open));
      }
    }
    open.remove(caller);
    return below + 1;
  }

  private void holds(int rule, String what, Tree tree, boolean is) {
    long at = trees.getSourcePositions().getStartPosition(unit, tree);
    t.due("line " + lines.getLineNumber(at) + ": rule " + rule + ": " + what, is);
  }

  private void never(int rule, String what, Tree tree) {
    holds(rule, what, tree, false);
  }

  @Override
  public Void visitImport(ImportTree tree, Void v) {
    holds(4, tree.toString().trim(), tree,
        tree.getQualifiedIdentifier().toString().equals("java.util.Arrays"));
    return super.visitImport(tree, v);
  }

  @Override
  public Void visitClass(ClassTree tree, Void v) {
    classes++;
    TypeElement type = (TypeElement) trees.getElement(getCurrentPath());
    boolean isNested = type.getNestingKind() == NestingKind.MEMBER;
    holds(2, "not a class of a method", tree,
        isNested || type.getNestingKind() == NestingKind.TOP_LEVEL);
    holds(2, "static", tree, !isNested || type.getModifiers().contains(Modifier.STATIC));
    holds(1, "not seen from outside", tree, !isNested
        || !type.getModifiers().contains(Modifier.PUBLIC)
        && !type.getModifiers().contains(Modifier.PROTECTED));
    int fields = 0;
    for (Element member : type.getEnclosedElements()) {
      if (member.getKind() == ElementKind.FIELD) {
        boolean isStatic = member.getModifiers().contains(Modifier.STATIC);
        holds(5, member + " is final", tree,
            !isStatic || member.getModifiers().contains(Modifier.FINAL));
        fields += isStatic ? 0 : 1;
      }
    }
    holds(11, fields + " fields", tree, fields <= 20);
    return super.visitClass(tree, v);
  }

  @Override
  public Void visitBlock(BlockTree tree, Void v) {
    boolean isInitialiser = getCurrentPath().getParentPath().getLeaf() instanceof ClassTree;
    holds(5, "no initialiser block", tree, !isInitialiser);
    return super.visitBlock(tree, v);
  }

  @Override
  public Void visitMethod(MethodTree tree, Void v) {
    ExecutableElement around = method;
    method = (ExecutableElement) trees.getElement(getCurrentPath());
    holds(11, "seven parameters at most", tree, tree.getParameters().size() <= 7);
    long start = trees.getSourcePositions().getStartPosition(unit, tree);
    long end = trees.getSourcePositions().getEndPosition(unit, tree);
    if (end >= 0) {
      long many = lines.getLineNumber(end) - lines.getLineNumber(start) + 1;
      holds(11, tree.getName() + " has " + many + " lines", tree, many <= 60);
    }
    calls.computeIfAbsent(method, m -> new LinkedHashSet<>());
    super.visitMethod(tree, v);
    method = around;
    return null;
  }

  @Override
  public Void visitVariable(VariableTree tree, Void v) {
    String type = trees.getTypeMirror(getCurrentPath()).toString();
    holds(3, "a variable of " + type, tree, TYPES.contains(type) || isOwn(type));
    return super.visitVariable(tree, v);
  }

  private static boolean isOwn(String type) {
    return type.equals("DotsOnGrass") || type.startsWith("DotsOnGrass.");
  }

  @Override
  public Void visitMethodInvocation(MethodInvocationTree tree, Void v) {
    called((ExecutableElement) trees.getElement(getCurrentPath()), tree);
    return super.visitMethodInvocation(tree, v);
  }

  private void called(ExecutableElement callee, Tree tree) {
    String whose = callee.getEnclosingElement().toString();
    String name = whose + "." + callee;
    holds(4, "calls " + name, tree, isOwn(whose) || LIBRARY.contains(name));
    if (method != null) {
      calls.get(method).add(callee);
    }
    if (callee.getSimpleName().contentEquals("arraycopy")) {
      copiesNumbers((MethodInvocationTree) tree);
    }
  }

  /** The list of the library speaks of arrays of numbers; a boolean is none. */
  private void copiesNumbers(MethodInvocationTree tree) {
    for (int argument : new int[] {0, 2}) {
      String type = trees.getTypeMirror(new TreePath(getCurrentPath(),
          tree.getArguments().get(argument))).toString();
      holds(4, "copies " + type, tree, type.equals("int[]"));
    }
  }

  @Override
  public Void visitNewClass(NewClassTree tree, Void v) {
    madeInConstructor(tree);
    called((ExecutableElement) trees.getElement(getCurrentPath()), tree);
    return super.visitNewClass(tree, v);
  }

  @Override
  public Void visitNewArray(NewArrayTree tree, Void v) {
    madeInConstructor(tree);
    return super.visitNewArray(tree, v);
  }

  private void madeInConstructor(Tree tree) {
    holds(12, "made in a constructor", tree,
        method == null || method.getKind() == ElementKind.CONSTRUCTOR);
  }

  @Override
  public Void visitForLoop(ForLoopTree tree, Void v) {
    holds(9, "an end that can be seen", tree,
        tree.getCondition() != null && !tree.getUpdate().isEmpty());
    return super.visitForLoop(tree, v);
  }

  @Override
  public Void visitBinary(BinaryTree tree, Void v) {
    TypeKind kind = trees.getTypeMirror(getCurrentPath()).getKind();
    holds(10, "numbers and truth alone", tree, kind == TypeKind.INT || kind == TypeKind.BOOLEAN);
    return super.visitBinary(tree, v);
  }

  @Override
  public Void visitWhileLoop(WhileLoopTree tree, Void v) {
    never(9, "while", tree);
    return super.visitWhileLoop(tree, v);
  }

  @Override
  public Void visitTypeCast(TypeCastTree tree, Void v) {
    never(6, "a cast", tree);
    return super.visitTypeCast(tree, v);
  }

  @Override
  public Void visitLambdaExpression(LambdaExpressionTree tree, Void v) {
    never(2, "a lambda", tree);
    return super.visitLambdaExpression(tree, v);
  }

  @Override
  public Void visitMemberReference(MemberReferenceTree tree, Void v) {
    never(2, "a method reference", tree);
    return super.visitMemberReference(tree, v);
  }

  @Override
  public Void visitThrow(ThrowTree tree, Void v) {
    never(6, "throw", tree);
    return super.visitThrow(tree, v);
  }

  @Override
  public Void visitTry(TryTree tree, Void v) {
    never(6, "try", tree);
    return super.visitTry(tree, v);
  }

  @Override
  public Void visitSynchronized(SynchronizedTree tree, Void v) {
    never(6, "synchronized", tree);
    return super.visitSynchronized(tree, v);
  }

  @Override
  public Void visitAssert(AssertTree tree, Void v) {
    never(6, "assert", tree);
    return super.visitAssert(tree, v);
  }
}
