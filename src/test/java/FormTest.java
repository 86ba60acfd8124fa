import com.sun.source.tree.AssertTree;
import com.sun.source.tree.BinaryTree;
import com.sun.source.tree.ClassTree;
import com.sun.source.tree.CompilationUnitTree;
import com.sun.source.tree.CompoundAssignmentTree;
import com.sun.source.tree.ExpressionTree;
import com.sun.source.tree.IdentifierTree;
import com.sun.source.tree.InstanceOfTree;
import com.sun.source.tree.LambdaExpressionTree;
import com.sun.source.tree.LiteralTree;
import com.sun.source.tree.MemberReferenceTree;
import com.sun.source.tree.MethodInvocationTree;
import com.sun.source.tree.MethodTree;
import com.sun.source.tree.NewArrayTree;
import com.sun.source.tree.NewClassTree;
import com.sun.source.tree.SynchronizedTree;
import com.sun.source.tree.ThrowTree;
import com.sun.source.tree.Tree;
import com.sun.source.tree.TryTree;
import com.sun.source.tree.VariableTree;
import com.sun.source.tree.WhileLoopTree;
import com.sun.source.util.JavacTask;
import com.sun.source.util.SourcePositions;
import com.sun.source.util.TreeScanner;
import com.sun.source.util.Trees;
import java.nio.file.Path;
import java.util.HashMap;
import java.util.List;
import java.util.Map;
import java.util.Set;
import java.util.TreeSet;
import javax.lang.model.element.Modifier;
import javax.tools.JavaCompiler;
import javax.tools.StandardJavaFileManager;
import javax.tools.ToolProvider;

/**
 * The class's source keeps to LANGUAGE.md, as far as its syntax tells: this class needs less than the
 * rules leave, so the test asks for less too (one class, no lists, no try, no recursion).
 */
public final class FormTest {
  private static final Path SOURCE = Path.of("src/main/java/TowerIntegrals.java");
  private static final Set<String> EXCEPTIONS =
      Set.of("IllegalStateException", "IllegalArgumentException", "IndexOutOfBoundsException");
  private static final Set<String> LIBRARY = Set.of("Math.abs", "Math.max", "Math.min", "Math.floorMod", "Math.floorDiv");
  private static final int MOST_LINES = 60, MOST_PARAMETERS = 7, DEEPEST = 8, MOST_FIELDS = 20;
  private static final Set<String> faults = new TreeSet<>();

  public static void main(String[] args) throws Exception {
    JavaCompiler compiler = ToolProvider.getSystemJavaCompiler();
    if (compiler == null) {
      System.out.println("not checked: this java comes without the compiler's library");
      return;
    }
    try (StandardJavaFileManager files = compiler.getStandardFileManager(null, null, null)) {
      JavacTask task = (JavacTask) compiler.getTask(null, files, null, null, null, files.getJavaFileObjects(SOURCE));
      CompilationUnitTree unit = task.parse().iterator().next();
      check(unit, Trees.instance(task).getSourcePositions());
    }
    faults.forEach(System.out::println);
    if (!faults.isEmpty()) {
      System.exit(1);
    }
    System.out.println("the form is that of LANGUAGE.md");
  }

  private static void check(CompilationUnitTree unit, SourcePositions positions) {
    fault(unit.getPackageName() != null, "a package line");
    fault(!unit.getImports().isEmpty(), "rule 4: an import");
    fault(unit.getTypeDecls().size() != 1, "not just one class");
    ClassTree all = (ClassTree) unit.getTypeDecls().get(0);
    Map<String, MethodTree> methods = new HashMap<>();
    int fields = 0;
    for (Tree member : all.getMembers()) {
      if (member instanceof MethodTree method) {
        fault(methods.put(method.getName().toString(), method) != null, "two methods named " + method.getName());
        checkMethod(method, unit, positions);
      } else if (member instanceof VariableTree field) {
        boolean constant = field.getModifiers().getFlags().contains(Modifier.STATIC);
        fields += constant ? 0 : 1;
        if (constant) {
          checkConstant(field);
        }
      } else {
        fault(true, "neither a field nor a method: " + member.getKind());
      }
    }
    fault(fields > MOST_FIELDS, "rule 11: too many fields");
    for (String name : methods.keySet()) {
      int depth = depth(name, methods, 0);
      fault(depth > DEEPEST, "rule 11: calls go too deep from " + name);
    }
  }

  private static void fault(boolean is, String what) {
    if (is) {
      faults.add(what);
    }
  }

  private static void checkConstant(VariableTree field) {
    String type = field.getType().toString();
    String name = field.getName().toString();
    fault(!field.getModifiers().getFlags().contains(Modifier.FINAL), "rule 5: static and not final: " + name);
    fault(!type.equals("int") && !type.equals("int[]"), "rule 5: the type of " + name);
    boolean writtenOut = field.getInitializer() instanceof NewArrayTree row && row.getInitializers() != null;
    fault(type.equals("int[]") && !writtenOut, "rule 5: a row that isn't written out: " + name);
  }

  private static void checkMethod(MethodTree method, CompilationUnitTree unit, SourcePositions positions) {
    String name = method.getName().toString();
    long first = unit.getLineMap().getLineNumber(positions.getStartPosition(unit, method));
    long last = unit.getLineMap().getLineNumber(positions.getEndPosition(unit, method));
    fault(last - first + 1 > MOST_LINES, "rule 11: too long: " + name);
    fault(method.getParameters().size() > MOST_PARAMETERS, "rule 11: too many parameters: " + name);
    method.accept(new Scan(name), null);
  }

  /** How many calls stand open at once, of a method with all that it calls. */
  private static int depth(String name, Map<String, MethodTree> methods, int above) {
    if (above > 100) {
      faults.add("recursion through " + name);
      return above;
    }
    int[] deepest = {0};
    methods.get(name).accept(new TreeScanner<Void, Void>() {
      @Override
      public Void visitMethodInvocation(MethodInvocationTree call, Void none) {
        String called = call.getMethodSelect().toString();
        if (methods.containsKey(called)) {
          deepest[0] = Math.max(deepest[0], depth(called, methods, above + 1));
        }
        return super.visitMethodInvocation(call, none);
      }
    }, null);
    return 1 + deepest[0];
  }

  private static final class Scan extends TreeScanner<Void, Void> {
    private final String in;

    Scan(String in) {
      this.in = in;
    }

    private Void not(String what) {
      faults.add(what + ", in " + in);
      return null;
    }

    @Override
    public Void visitLambdaExpression(LambdaExpressionTree tree, Void none) {
      return not("rule 2: a lambda");
    }

    @Override
    public Void visitMemberReference(MemberReferenceTree tree, Void none) {
      return not("rule 2: a method reference");
    }

    @Override
    public Void visitTry(TryTree tree, Void none) {
      return not("rule 6: a try, which nothing here needs");
    }

    @Override
    public Void visitSynchronized(SynchronizedTree tree, Void none) {
      return not("rule 6: synchronized");
    }

    @Override
    public Void visitAssert(AssertTree tree, Void none) {
      return not("rule 6: assert");
    }

    @Override
    public Void visitInstanceOf(InstanceOfTree tree, Void none) {
      return not("rule 6: instanceof, which nothing here needs");
    }

    @Override
    public Void visitWhileLoop(WhileLoopTree tree, Void none) {
      return not("rule 9: a loop without a counter");
    }

    @Override
    public Void visitThrow(ThrowTree tree, Void none) {
      fault(in.equals("<init>"), "rule 6: a throw in the constructor");
      if (!(tree.getExpression() instanceof NewClassTree made)) {
        return not("rule 6: a throw of what isn't new");
      }
      fault(!EXCEPTIONS.contains(made.getIdentifier().toString()), "rule 6: throws " + made.getIdentifier());
      List<? extends ExpressionTree> texts = made.getArguments();
      boolean written = texts.isEmpty() || texts.size() == 1 && texts.get(0).getKind() == Tree.Kind.STRING_LITERAL;
      fault(!written, "rule 6: a text that isn't written out, in " + in);
      return null;
    }

    @Override
    public Void visitNewClass(NewClassTree tree, Void none) {
      return not("rule 12: an object made outside a throw");
    }

    @Override
    public Void visitNewArray(NewArrayTree tree, Void none) {
      return in.equals("<init>") ? super.visitNewArray(tree, none) : not("rule 12: a row made outside the constructor");
    }

    @Override
    public Void visitMethodInvocation(MethodInvocationTree tree, Void none) {
      String called = tree.getMethodSelect().toString();
      boolean own = tree.getMethodSelect() instanceof IdentifierTree || called.equals("super");
      fault(!own && !LIBRARY.contains(called), "rule 4: calls " + called + ", in " + in);
      return super.visitMethodInvocation(tree, none);
    }

    @Override
    public Void visitBinary(BinaryTree tree, Void none) {
      checkDivisor(tree.getKind(), tree.getRightOperand());
      boolean texts = isText(tree.getLeftOperand()) || isText(tree.getRightOperand());
      fault(texts, "rule 10: texts joined by +, in " + in);
      return super.visitBinary(tree, none);
    }

    @Override
    public Void visitCompoundAssignment(CompoundAssignmentTree tree, Void none) {
      checkDivisor(tree.getKind(), tree.getExpression());
      return super.visitCompoundAssignment(tree, none);
    }

    private void checkDivisor(Tree.Kind kind, ExpressionTree divisor) {
      boolean divides = kind == Tree.Kind.DIVIDE || kind == Tree.Kind.REMAINDER
          || kind == Tree.Kind.DIVIDE_ASSIGNMENT || kind == Tree.Kind.REMAINDER_ASSIGNMENT;
      fault(divides && !divisor.toString().equals("MODULUS"), "rule 7: divides by " + divisor + ", in " + in);
    }

    private boolean isText(ExpressionTree tree) {
      return tree instanceof LiteralTree literal && literal.getValue() instanceof String;
    }
  }
}
