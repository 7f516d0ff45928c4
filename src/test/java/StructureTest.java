import com.sun.source.tree.ClassTree;
import com.sun.source.tree.CompilationUnitTree;
import com.sun.source.tree.ExpressionTree;
import com.sun.source.tree.LambdaExpressionTree;
import com.sun.source.tree.LiteralTree;
import com.sun.source.tree.MemberReferenceTree;
import com.sun.source.tree.MethodInvocationTree;
import com.sun.source.tree.MethodTree;
import com.sun.source.tree.NewArrayTree;
import com.sun.source.tree.NewClassTree;
import com.sun.source.tree.ThrowTree;
import com.sun.source.tree.Tree;
import com.sun.source.util.JavacTask;
import com.sun.source.util.TreePathScanner;
import com.sun.source.util.Trees;
import java.io.IOException;
import java.nio.file.Path;
import java.util.LinkedHashMap;
import java.util.LinkedHashSet;
import java.util.List;
import java.util.Map;
import java.util.Set;
import javax.lang.model.element.Element;
import javax.lang.model.element.ElementKind;
import javax.lang.model.element.ExecutableElement;
import javax.lang.model.element.Modifier;
import javax.tools.JavaCompiler;
import javax.tools.StandardJavaFileManager;
import javax.tools.ToolProvider;

/**
 * Those rules of LANGUAGE.md for which the class's text must be parsed, each named by its number. What
 * they allow but the class has no use for (library, recursion, objects made by a call) is refused too,
 * as that is easier to look at; who comes to need it widens the test to what the rule allows.
 */
final class StructureTest extends TreePathScanner<Void, Void> {
  private static final Path SOURCE = Path.of("src", "main", "java", "ShadowHeap.java");
  private static final int MOST_LINES = 60;
  private static final int MOST_DEPTH = 8;
  private static final int MOST_CLASSES = 12;
  private static final int MOST_FIELDS = 20;
  private static final Set<String> EXCEPTIONS = Set.of("IllegalStateException", "IllegalArgumentException",
      "IndexOutOfBoundsException", "ArithmeticException", "UnsupportedOperationException",
      "NoSuchElementException", "RuntimeException");

  private final Trees trees;
  private final CompilationUnitTree unit;
  private final Map<Element, Set<Element>> callsOf = new LinkedHashMap<>();
  private int classes;

  private StructureTest(Trees trees, CompilationUnitTree unit) {
    this.trees = trees;
    this.unit = unit;
  }

  public static void main(String[] args) throws IOException {
    JavaCompiler compiler = ToolProvider.getSystemJavaCompiler();
    try (StandardJavaFileManager files = compiler.getStandardFileManager(null, null, null)) {
      JavacTask task = (JavacTask) compiler.getTask(null, files, null, List.of("-proc:none"), null,
          files.getJavaFileObjects(SOURCE));
      CompilationUnitTree unit = task.parse().iterator().next();
      task.analyze();
      StructureTest test = new StructureTest(Trees.instance(task), unit);
      test.scan(unit, null);
      test.endOfText();
    }
    Check.end();
  }

  private void endOfText() {
    Check.holds("rule 11: " + classes + " classes are at most " + MOST_CLASSES, classes <= MOST_CLASSES);
    Check.holds("calls were found", callsOf.size() > 20);
    for (Element method : callsOf.keySet()) {
      int depth = depthFrom(method, new LinkedHashSet<>());
      Check.holds("rule 11: calls from " + method + " go " + depth + " deep, at most " + MOST_DEPTH,
          depth <= MOST_DEPTH);
    }
  }

  private int depthFrom(Element method, Set<Element> open) {
    if (!open.add(method)) {
      Check.note("rule 8: " + method + " calls itself, by way of " + open);
      return 0;
    }
    int deepest = 0;
    for (Element called : callsOf.getOrDefault(method, Set.of())) {
      deepest = Math.max(deepest, depthFrom(called, open));
    }
    open.remove(method);
    return deepest + 1;
  }

  @Override
  public Void visitClass(ClassTree tree, Void none) {
    classes++;
    Element element = trees.getElement(getCurrentPath());
    Check.holds("rule 2: " + tree.getSimpleName() + " is no local class", methodAround() == null);
    Check.holds("rule 1: " + tree.getSimpleName() + " is the face or static",
        element.getEnclosingElement().getKind() == ElementKind.PACKAGE
            || element.getModifiers().contains(Modifier.STATIC));
    long fields = element.getEnclosedElements().stream()
        .filter(e -> e.getKind() == ElementKind.FIELD && !e.getModifiers().contains(Modifier.STATIC)).count();
    Check.holds("rule 11: " + tree.getSimpleName() + " has at most " + MOST_FIELDS + " fields",
        fields <= MOST_FIELDS);
    return super.visitClass(tree, none);
  }

  @Override
  public Void visitMethod(MethodTree tree, Void none) {
    long begin = trees.getSourcePositions().getStartPosition(unit, tree);
    long end = trees.getSourcePositions().getEndPosition(unit, tree);
    // A constructor that the compiler adds has no end in the text.
    if (end >= 0) {
      long lines = unit.getLineMap().getLineNumber(end) - unit.getLineMap().getLineNumber(begin) + 1;
      Check.holds("rule 11: " + tree.getName() + " has at most " + MOST_LINES + " lines",
          lines <= MOST_LINES);
    }
    callsOf.put(trees.getElement(getCurrentPath()), new LinkedHashSet<>());
    return super.visitMethod(tree, none);
  }

  @Override
  public Void visitMethodInvocation(MethodInvocationTree tree, Void none) {
    Element called = trees.getElement(getCurrentPath());
    // The call of Object's constructor stands in each constructor without being written there.
    if (!isConstructorOfObject(called)) {
      Check.holds("rule 4: " + called + " is the class's own", isOwn(called));
      noteCall(called);
    }
    return super.visitMethodInvocation(tree, none);
  }

  @Override
  public Void visitNewClass(NewClassTree tree, Void none) {
    Element constructor = trees.getElement(getCurrentPath());
    if (isOwn(constructor)) {
      noteCall(constructor);
      madeByAConstructor(tree);
    } else {
      Check.holds("rule 6: " + tree + " is one of its exceptions, and thrown at once",
          EXCEPTIONS.contains(tree.getIdentifier().toString())
              && getCurrentPath().getParentPath().getLeaf() instanceof ThrowTree);
      Check.holds("rule 6: " + tree + " has a written text or none",
          hasWrittenTextOrNone(tree.getArguments()));
    }
    return super.visitNewClass(tree, none);
  }

  @Override
  public Void visitNewArray(NewArrayTree tree, Void none) {
    madeByAConstructor(tree);
    return super.visitNewArray(tree, none);
  }

  @Override
  public Void visitThrow(ThrowTree tree, Void none) {
    MethodTree method = methodAround();
    Check.holds("rule 6: no constructor throws", method != null && method.getReturnType() != null);
    return super.visitThrow(tree, none);
  }

  @Override
  public Void visitLambdaExpression(LambdaExpressionTree tree, Void none) {
    Check.note("rule 2: a lambda, " + tree);
    return super.visitLambdaExpression(tree, none);
  }

  @Override
  public Void visitMemberReference(MemberReferenceTree tree, Void none) {
    Check.note("rule 2: a method reference, " + tree);
    return super.visitMemberReference(tree, none);
  }

  /** README.md says that a later call makes no object but the exception that it throws. */
  private void madeByAConstructor(Tree tree) {
    MethodTree method = methodAround();
    Check.holds("rule 12: " + tree + " is made by a constructor",
        method == null || method.getReturnType() == null);
  }

  private void noteCall(Element called) {
    Element caller = elementAround();
    if (caller != null) {
      callsOf.get(caller).add(called);
    }
  }

  private MethodTree methodAround() {
    for (Tree tree : getCurrentPath()) {
      if (tree instanceof MethodTree method) {
        return method;
      }
    }
    return null;
  }

  private Element elementAround() {
    MethodTree method = methodAround();
    return method == null ? null : trees.getElement(trees.getPath(unit, method));
  }

  private static boolean isOwn(Element called) {
    Element outermost = called;
    while (outermost.getEnclosingElement().getKind() != ElementKind.PACKAGE) {
      outermost = outermost.getEnclosingElement();
    }
    return outermost.getSimpleName().contentEquals("ShadowHeap");
  }

  private static boolean isConstructorOfObject(Element called) {
    return called instanceof ExecutableElement && called.getKind() == ElementKind.CONSTRUCTOR
        && called.getEnclosingElement().toString().equals("java.lang.Object");
  }

  private static boolean hasWrittenTextOrNone(List<? extends ExpressionTree> arguments) {
    return arguments.isEmpty() || arguments.size() == 1 && arguments.get(0) instanceof LiteralTree;
  }
}
