import com.sun.source.tree.AssertTree;
import com.sun.source.tree.BinaryTree;
import com.sun.source.tree.BlockTree;
import com.sun.source.tree.CatchTree;
import com.sun.source.tree.ClassTree;
import com.sun.source.tree.CompilationUnitTree;
import com.sun.source.tree.LambdaExpressionTree;
import com.sun.source.tree.LiteralTree;
import com.sun.source.tree.MemberReferenceTree;
import com.sun.source.tree.MethodInvocationTree;
import com.sun.source.tree.MethodTree;
import com.sun.source.tree.NewArrayTree;
import com.sun.source.tree.NewClassTree;
import com.sun.source.tree.SynchronizedTree;
import com.sun.source.tree.ThrowTree;
import com.sun.source.tree.Tree;
import com.sun.source.tree.TryTree;
import com.sun.source.tree.VariableTree;
import com.sun.source.util.JavacTask;
import com.sun.source.util.TreePath;
import com.sun.source.util.TreePathScanner;
import com.sun.source.util.Trees;
import java.io.IOException;
import java.nio.file.Path;
import java.util.List;
import java.util.Map;
import java.util.Set;
import java.util.TreeMap;
import java.util.TreeSet;
import javax.lang.model.element.Element;
import javax.lang.model.element.Modifier;
import javax.lang.model.element.TypeElement;
import javax.tools.JavaCompiler;
import javax.tools.StandardJavaFileManager;
import javax.tools.ToolProvider;

/**
 * The rules of ../shared/LANGUAGE.md that can be counted or looked up in the source; FaceTest has rule 1. Where the
 * class needs less than a rule allows, only that much is allowed here: whoever needs more of it adds it.
 */
public final class LanguageTest extends TreePathScanner<Void, Void> {
  private static final Path SOURCE = Path.of("src/main/java/Campground.java");

  private static final Set<String> LIBRARY = Set.of("Math.min", "Math.max", "Arrays.fill", "System.arraycopy",
      "String.length", "String.charAt", "Object.<init>");
  private static final Set<String> EXCEPTIONS = Set.of("IllegalStateException", "IllegalArgumentException",
      "IndexOutOfBoundsException", "ArithmeticException", "UnsupportedOperationException", "NoSuchElementException",
      "RuntimeException");
  private static final Set<String> TYPES = Set.of("int", "long", "short", "byte", "char", "boolean", "String",
      "StringBuilder");
  private static final Set<String> STATIC_TYPES = Set.of("int", "long", "boolean", "char", "String", "int[]", "long[]",
      "char[]", "byte[]");

  private static final int MOST_PARAMETERS = 7;
  private static final int MOST_LINES = 60;
  private static final int MOST_CLASSES = 12;
  private static final int MOST_FIELDS = 20;
  private static final int DEEPEST_CALLS = 8;

  private final CompilationUnitTree unit;
  private final Trees trees;
  private final Set<String> own = new TreeSet<>();
  private final Map<String, Set<String>> calls = new TreeMap<>();

  private LanguageTest(CompilationUnitTree unit, Trees trees) {
    this.unit = unit;
    this.trees = trees;
  }

  public static void main(String[] args) throws IOException {
    JavaCompiler compiler = ToolProvider.getSystemJavaCompiler();
    try (StandardJavaFileManager files = compiler.getStandardFileManager(null, null, null)) {
      JavacTask task = (JavacTask) compiler.getTask(null, files, null, List.of("--release", "17", "-proc:none"), null,
          files.getJavaFileObjects(SOURCE));
      CompilationUnitTree unit = task.parse().iterator().next();
      task.analyze();
      LanguageTest test = new LanguageTest(unit, Trees.instance(task));
      test.nameClasses();
      test.scan(unit, null);
      test.countDepth();
    }
    Due.end();
  }

  private void nameClasses() {
    for (Tree type : unit.getTypeDecls()) {
      own.add(((ClassTree) type).getSimpleName().toString());
      for (Tree member : ((ClassTree) type).getMembers()) {
        if (member instanceof ClassTree inside) {
          own.add(inside.getSimpleName().toString());
        }
      }
    }
    Due.same("public classes", unit.getTypeDecls().size(), 1);
    wrongUnless(own.size() <= MOST_CLASSES, 11, "classes: " + own, unit);
  }

  private void wrongUnless(boolean kept, int rule, String what, Tree where) {
    long position = trees.getSourcePositions().getStartPosition(unit, where);
    Due.same("rule " + rule + ", line " + unit.getLineMap().getLineNumber(position) + ": " + what, kept ? 1 : 0, 1);
  }

  private String methodAround() {
    for (TreePath path = getCurrentPath(); path != null; path = path.getParentPath()) {
      if (path.getLeaf() instanceof MethodTree) {
        return name(trees.getElement(path));
      }
    }
    return "";
  }

  private static String name(Element method) {
    return method.getEnclosingElement().getSimpleName() + "." + method.getSimpleName();
  }

  @Override
  public Void visitClass(ClassTree type, Void none) {
    Tree parent = getCurrentPath().getParentPath().getLeaf();
    boolean inside = parent instanceof ClassTree;
    wrongUnless(inside || parent == unit, 2, "a local or anonymous class", type);
    wrongUnless(!inside || type.getModifiers().getFlags().contains(Modifier.STATIC), 1, "a class that is not static",
        type);
    long fields = type.getMembers().stream().filter(m -> m instanceof VariableTree v && !isStatic(v)).count();
    wrongUnless(fields <= MOST_FIELDS, 11, fields + " fields", type);
    return super.visitClass(type, none);
  }

  private static boolean isStatic(VariableTree variable) {
    return variable.getModifiers().getFlags().contains(Modifier.STATIC);
  }

  @Override
  public Void visitVariable(VariableTree variable, Void none) {
    String type = variable.getType().toString();
    if (isStatic(variable)) {
      wrongUnless(variable.getModifiers().getFlags().contains(Modifier.FINAL), 5, "static, not final", variable);
      wrongUnless(STATIC_TYPES.contains(type), 5, "a static " + type, variable);
    }
    String element = type.replaceAll("\\[\\]$", "");
    wrongUnless(TYPES.contains(element) || own.contains(element) || element.equals("int[]"), 3, type, variable);
    return super.visitVariable(variable, none);
  }

  @Override
  public Void visitMethod(MethodTree method, Void none) {
    long first = unit.getLineMap().getLineNumber(trees.getSourcePositions().getStartPosition(unit, method));
    long last = unit.getLineMap().getLineNumber(Math.max(0, trees.getSourcePositions().getEndPosition(unit, method)));
    wrongUnless(last - first < MOST_LINES, 11, "a long method", method);
    wrongUnless(method.getParameters().size() <= MOST_PARAMETERS, 11, "many parameters", method);
    return super.visitMethod(method, none);
  }

  @Override
  public Void visitBlock(BlockTree block, Void none) {
    wrongUnless(!(getCurrentPath().getParentPath().getLeaf() instanceof ClassTree), 5, "an initialiser block", block);
    return super.visitBlock(block, none);
  }

  @Override
  public Void visitMethodInvocation(MethodInvocationTree call, Void none) {
    Element called = trees.getElement(getCurrentPath());
    if (called == null || !(called.getEnclosingElement() instanceof TypeElement owner)) {
      wrongUnless(false, 4, "an unknown call", call);
    } else if (own.contains(owner.getSimpleName().toString())) {
      calls.computeIfAbsent(methodAround(), key -> new TreeSet<>()).add(name(called));
    } else {
      wrongUnless(LIBRARY.contains(name(called)), 4, name(called), call);
    }
    return super.visitMethodInvocation(call, none);
  }

  @Override
  public Void visitThrow(ThrowTree thrown, Void none) {
    boolean plain = thrown.getExpression() instanceof NewClassTree made
        && EXCEPTIONS.contains(made.getIdentifier().toString()) && made.getArguments().size() <= 1
        && made.getArguments().stream().allMatch(text -> text instanceof LiteralTree);
    wrongUnless(plain, 6, "throws something else than a new exception with a written text", thrown);
    wrongUnless(!methodAround().endsWith("<init>"), 6, "a constructor that throws", thrown);
    return super.visitThrow(thrown, none);
  }

  @Override
  public Void visitTry(TryTree attempt, Void none) {
    wrongUnless(attempt.getFinallyBlock() == null && attempt.getResources().isEmpty(), 6, "finally, or resources",
        attempt);
    return super.visitTry(attempt, none);
  }

  @Override
  public Void visitCatch(CatchTree caught, Void none) {
    // The class looks before it acts and needs no catch; one could hide what the machine throws.
    wrongUnless(false, 7, "a catch", caught);
    return super.visitCatch(caught, none);
  }

  @Override
  public Void visitNewClass(NewClassTree made, Void none) {
    String type = made.getIdentifier().toString();
    wrongUnless(made.getClassBody() == null, 2, "an anonymous class", made);
    boolean thrown = getCurrentPath().getParentPath().getLeaf() instanceof ThrowTree;
    wrongUnless(thrown || isMaker() && own.contains(type), 12, "a new " + type + " in " + methodAround(), made);
    return super.visitNewClass(made, none);
  }

  @Override
  public Void visitNewArray(NewArrayTree made, Void none) {
    wrongUnless(isMaker(), 12, "a new row in " + methodAround(), made);
    return super.visitNewArray(made, none);
  }

  /** Fields and constructors make all that there is; save() makes the state of a slot that was empty. */
  private boolean isMaker() {
    String around = methodAround();
    return around.isEmpty() || around.endsWith("<init>") || around.equals("Campground.save");
  }

  @Override
  public Void visitBinary(BinaryTree sum, Void none) {
    wrongUnless(!trees.getTypeMirror(getCurrentPath()).toString().equals("java.lang.String"), 10, "texts joined by +",
        sum);
    return super.visitBinary(sum, none);
  }

  @Override
  public Void visitLambdaExpression(LambdaExpressionTree lambda, Void none) {
    wrongUnless(false, 2, "a lambda", lambda);
    return super.visitLambdaExpression(lambda, none);
  }

  @Override
  public Void visitMemberReference(MemberReferenceTree reference, Void none) {
    wrongUnless(false, 2, "a method reference", reference);
    return super.visitMemberReference(reference, none);
  }

  @Override
  public Void visitSynchronized(SynchronizedTree block, Void none) {
    wrongUnless(false, 6, "synchronized", block);
    return super.visitSynchronized(block, none);
  }

  @Override
  public Void visitAssert(AssertTree claim, Void none) {
    wrongUnless(false, 6, "assert", claim);
    return super.visitAssert(claim, none);
  }

  private void countDepth() {
    Due.same("methods that call others", calls.size() > 50 ? 1 : 0, 1);
    for (String method : calls.keySet()) {
      int depth = depthOf(method, 0);
      Due.same("rule 11: " + method + " goes " + depth + " deep", depth <= DEEPEST_CALLS ? 1 : 0, 1);
    }
  }

  /** How many calls stand open at once, this one among them; recursion shows as a great number. */
  private int depthOf(String method, int above) {
    int below = 0;
    if (above <= 2 * DEEPEST_CALLS) {
      for (String called : calls.getOrDefault(method, Set.of())) {
        below = Math.max(below, depthOf(called, above + 1));
      }
    }
    return below + 1;
  }
}
