import com.sun.source.tree.AssertTree;
import com.sun.source.tree.BinaryTree;
import com.sun.source.tree.BlockTree;
import com.sun.source.tree.ClassTree;
import com.sun.source.tree.CompilationUnitTree;
import com.sun.source.tree.DoWhileLoopTree;
import com.sun.source.tree.ExpressionTree;
import com.sun.source.tree.ForLoopTree;
import com.sun.source.tree.IdentifierTree;
import com.sun.source.tree.ImportTree;
import com.sun.source.tree.LambdaExpressionTree;
import com.sun.source.tree.MemberReferenceTree;
import com.sun.source.tree.MemberSelectTree;
import com.sun.source.tree.MethodInvocationTree;
import com.sun.source.tree.MethodTree;
import com.sun.source.tree.NewClassTree;
import com.sun.source.tree.SynchronizedTree;
import com.sun.source.tree.ThrowTree;
import com.sun.source.tree.Tree;
import com.sun.source.tree.TryTree;
import com.sun.source.tree.VariableTree;
import com.sun.source.tree.WhileLoopTree;
import com.sun.source.util.JavacTask;
import com.sun.source.util.SourcePositions;
import com.sun.source.util.TreeScanner;
import com.sun.source.util.Trees;
import java.io.IOException;
import java.nio.file.Path;
import java.util.ArrayList;
import java.util.HashMap;
import java.util.HashSet;
import java.util.List;
import java.util.Map;
import java.util.Set;
import java.util.TreeSet;
import javax.lang.model.element.Modifier;
import javax.tools.JavaCompiler;
import javax.tools.StandardJavaFileManager;
import javax.tools.ToolProvider;

/**
 * What the source says about LANGUAGE.md's rules, read from the compiler's tree. The rules about
 * what happens while the program runs (7, 8, 13) are left to the other tests, which call it with
 * everything that it refuses.
 */
public final class LanguageRules extends TreeScanner<Void, Void> {
  private static final Set<String> PRIMITIVES =
      Set.of("void", "int", "long", "short", "byte", "char", "boolean", "double", "float");
  private static final Set<String> LIBRARY_TYPES =
      Set.of("String", "StringBuilder", "Integer", "ArrayList", "List", "Iterator", "Iterable", "Comparable");
  private static final Set<String> IMPORTS =
      Set.of("java.util.ArrayList", "java.util.List", "java.util.Arrays", "java.util.Iterator");
  private static final Set<String> ARRAYS_CALLS = Set.of("copyOf", "copyOfRange", "fill");
  private static final Set<String> CONSTANT_TYPES = Set.of("int", "long", "boolean", "char", "String");
  private static final Set<String> TABLE_TYPES = Set.of("int[]", "long[]", "char[]", "byte[]");
  private static final int MOST_PARAMETERS = 7;
  private static final int MOST_LINES = 60;
  private static final int MOST_CLASSES = 12;
  private static final int MOST_FIELDS = 20;
  private static final int MOST_CALLS_DEEP = 8;

  private final CompilationUnitTree unit;
  private final SourcePositions positions;
  private final Set<String> ownTypes = new HashSet<>();
  private final Set<String> publicNames = new HashSet<>();
  private final Map<String, Set<String>> callees = new HashMap<>();
  private int classes = 0;
  private int classDepth = 0;
  private int blockDepth = 0;
  private String method = "";
  private int wrong = 0;

  private LanguageRules(CompilationUnitTree unit, SourcePositions positions) {
    this.unit = unit;
    this.positions = positions;
  }

  private void fault(int rule, Tree where, String text) {
    wrong++;
    System.out.println("rule " + rule + ", line " + line(positions.getStartPosition(unit, where)) + ": " + text);
  }

  private long line(long position) {
    return unit.getLineMap().getLineNumber(position);
  }

  /** The names must be known before any use of them is looked at. */
  private void collectNames() {
    new TreeScanner<Void, Void>() {
      @Override
      public Void visitClass(ClassTree type, Void none) {
        classes++;
        ownTypes.add(type.getSimpleName().toString());
        type.getTypeParameters().forEach(p -> ownTypes.add(p.getName().toString()));
        return super.visitClass(type, none);
      }

      @Override
      public Void visitMethod(MethodTree m, Void none) {
        if (m.getModifiers().getFlags().contains(Modifier.PUBLIC)) publicNames.add(m.getName().toString());
        m.getTypeParameters().forEach(p -> ownTypes.add(p.getName().toString()));
        return null;
      }
    }.scan(unit, null);
    if (classes > MOST_CLASSES) fault(11, unit, classes + " classes");
  }

  @Override
  public Void visitCompilationUnit(CompilationUnitTree all, Void none) {
    if (all.getPackageName() != null) fault(1, all, "a package line");
    if (all.getTypeDecls().size() != 1) fault(1, all, "more than one class in the file");
    return super.visitCompilationUnit(all, none);
  }

  @Override
  public Void visitImport(ImportTree one, Void none) {
    String name = one.getQualifiedIdentifier().toString();
    if (one.isStatic() || !IMPORTS.contains(name)) fault(4, one, "import of " + name);
    return null;
  }

  @Override
  public Void visitClass(ClassTree type, Void none) {
    Set<Modifier> flags = type.getModifiers().getFlags();
    boolean nested = classDepth > 0;
    if (!nested && !(flags.contains(Modifier.PUBLIC) && flags.contains(Modifier.FINAL))) fault(1, type, "not public and final");
    if (nested && (flags.contains(Modifier.PUBLIC) || flags.contains(Modifier.PROTECTED))) fault(1, type, "a class inside is seen outside");
    if (nested && type.getKind() == Tree.Kind.CLASS && !flags.contains(Modifier.STATIC)) fault(2, type, "a class inside is not static");
    if (blockDepth > 0) fault(2, type, "a local class or a class without a name");
    int fields = 0;
    for (Tree member : type.getMembers()) {
      if (member instanceof VariableTree field) fields += checkField(field, nested);
      if (member instanceof MethodTree m && !nested) checkVisibility(m, m.getModifiers().getFlags());
      if (member instanceof BlockTree block && block.isStatic()) fault(5, block, "a static initialiser block");
    }
    if (fields > MOST_FIELDS) fault(11, type, fields + " fields");
    classDepth++;
    super.visitClass(type, none);
    classDepth--;
    return null;
  }

  /** How many fields beside the constants this is: 1 or 0. */
  private int checkField(VariableTree field, boolean nested) {
    Set<Modifier> flags = field.getModifiers().getFlags();
    if (!nested) checkVisibility(field, flags);
    if (!flags.contains(Modifier.STATIC)) return 1;
    String type = String.valueOf(field.getType());
    boolean constant = CONSTANT_TYPES.contains(type) || ownTypes.contains(type);
    boolean table = TABLE_TYPES.contains(type) || ownTypes.contains(type.replace("[]", ""));
    if (!flags.contains(Modifier.FINAL) || !(constant || table)) fault(5, field, "static state: " + field.getName());
    return 0;
  }

  private void checkVisibility(Tree member, Set<Modifier> flags) {
    if (!flags.contains(Modifier.PRIVATE) && !flags.contains(Modifier.PUBLIC)) fault(1, member, "neither public nor private");
  }

  @Override
  public Void visitMethod(MethodTree m, Void none) {
    String name = m.getName().toString();
    boolean hidden = m.getModifiers().getFlags().contains(Modifier.PRIVATE);
    if (hidden && publicNames.contains(name)) fault(1, m, "a private method bears the public name " + name);
    if (Set.of("equals", "hashCode", "toString").contains(name)) fault(6, m, "a method " + name);
    if (m.getParameters().size() > MOST_PARAMETERS) fault(11, m, m.getParameters().size() + " parameters");
    long lines = line(positions.getEndPosition(unit, m)) - line(positions.getStartPosition(unit, m)) + 1;
    if (lines > MOST_LINES) fault(11, m, name + " has " + lines + " lines");
    checkType(m.getReturnType());
    method = name;
    callees.computeIfAbsent(name, key -> new TreeSet<>());
    super.visitMethod(m, none);
    method = "";
    return null;
  }

  @Override
  public Void visitVariable(VariableTree variable, Void none) {
    checkType(variable.getType());
    return super.visitVariable(variable, none);
  }

  private void checkType(Tree type) {
    if (type == null) return;
    String text = type.toString();
    String base = text.replaceAll("<.*>", "").replace("[]", "");
    int dimensions = (text.length() - text.replace("[]", "").length()) / 2;
    boolean number = PRIMITIVES.contains(base);
    if (!number && !ownTypes.contains(base) && !LIBRARY_TYPES.contains(base)) fault(3, type, "the type " + text);
    if (dimensions > (number ? 2 : 1)) fault(3, type, "too many dimensions: " + text);
  }

  @Override
  public Void visitBlock(BlockTree block, Void none) {
    blockDepth++;
    super.visitBlock(block, none);
    blockDepth--;
    return null;
  }

  @Override
  public Void visitNewClass(NewClassTree made, Void none) {
    checkType(made.getIdentifier());
    return super.visitNewClass(made, none);
  }

  @Override
  public Void visitMethodInvocation(MethodInvocationTree call, Void none) {
    ExpressionTree called = call.getMethodSelect();
    boolean selected = called instanceof MemberSelectTree;
    String name = selected ? ((MemberSelectTree) called).getIdentifier().toString() : called.toString();
    if (selected) checkLibrary(call, ((MemberSelectTree) called).getExpression().toString(), name);
    boolean toAbove = method.equals("<init>") && name.equals("super");
    if (method.equals("<init>") && !toAbove) fault(12, call, "a constructor calls " + name);
    if (!method.isEmpty()) callees.get(method).add(name);
    return super.visitMethodInvocation(call, none);
  }

  private void checkLibrary(Tree where, String holder, String name) {
    boolean allowed = switch (holder) {
      case "System" -> name.equals("arraycopy");
      case "Arrays" -> ARRAYS_CALLS.contains(name);
      case "Math", "Integer", "Long" -> !name.endsWith("Exact") && !name.equals("random");
      default -> !Set.of("getClass", "hashCode", "toString", "finalize", "notify", "notifyAll", "wait").contains(name);
    };
    if (!allowed) fault(4, where, holder + "." + name);
  }

  @Override
  public Void visitMemberSelect(MemberSelectTree select, Void none) {
    String text = select.toString();
    boolean outside = text.startsWith("java.") || text.startsWith("javax.") || text.startsWith("System.") && !text.equals("System.arraycopy");
    if (outside) fault(4, select, text);
    return super.visitMemberSelect(select, none);
  }

  @Override
  public Void visitIdentifier(IdentifierTree identifier, Void none) {
    if (Set.of("Thread", "Runtime", "Object", "Random").contains(identifier.getName().toString())) fault(4, identifier, identifier.toString());
    return null;
  }

  @Override
  public Void visitLambdaExpression(LambdaExpressionTree lambda, Void none) {
    fault(2, lambda, "a lambda");
    return null;
  }

  @Override
  public Void visitMemberReference(MemberReferenceTree reference, Void none) {
    fault(2, reference, "a method reference");
    return null;
  }

  @Override
  public Void visitThrow(ThrowTree thrown, Void none) {
    fault(6, thrown, "throw");
    return null;
  }

  @Override
  public Void visitTry(TryTree tried, Void none) {
    fault(6, tried, "try");
    return null;
  }

  @Override
  public Void visitSynchronized(SynchronizedTree locked, Void none) {
    fault(6, locked, "synchronized");
    return null;
  }

  @Override
  public Void visitAssert(AssertTree asserted, Void none) {
    fault(6, asserted, "assert");
    return null;
  }

  @Override
  public Void visitForLoop(ForLoopTree loop, Void none) {
    if (loop.getCondition() == null || loop.getUpdate().isEmpty()) fault(9, loop, "a for loop without a counter");
    return super.visitForLoop(loop, none);
  }

  @Override
  public Void visitWhileLoop(WhileLoopTree loop, Void none) {
    if (loop.getCondition().toString().equals("(true)")) fault(9, loop, "a loop without an end");
    return super.visitWhileLoop(loop, none);
  }

  @Override
  public Void visitDoWhileLoop(DoWhileLoopTree loop, Void none) {
    if (loop.getCondition().toString().equals("(true)")) fault(9, loop, "a loop without an end");
    return super.visitDoWhileLoop(loop, none);
  }

  @Override
  public Void visitBinary(BinaryTree binary, Void none) {
    boolean text = binary.getLeftOperand().getKind() == Tree.Kind.STRING_LITERAL
        || binary.getRightOperand().getKind() == Tree.Kind.STRING_LITERAL;
    if (text && binary.getKind() == Tree.Kind.PLUS) fault(10, binary, "texts joined by +");
    return super.visitBinary(binary, none);
  }

  /** A method that calls itself counts once: the rule leaves recursion out. */
  private void checkDepth() {
    for (String name : publicNames) {
      int deep = deepest(name, new ArrayList<>());
      if (deep > MOST_CALLS_DEEP) fault(11, unit, name + " goes " + deep + " calls deep");
    }
  }

  private int deepest(String name, List<String> open) {
    if (open.contains(name) || !callees.containsKey(name)) return 0;
    open.add(name);
    int most = 0;
    for (String callee : callees.get(name)) most = Math.max(most, deepest(callee, open));
    open.remove(name);
    return most + 1;
  }

  /** How many faults the file has, each of them printed. */
  private static int faultsOf(Path source) throws IOException {
    JavaCompiler compiler = ToolProvider.getSystemJavaCompiler();
    try (StandardJavaFileManager files = compiler.getStandardFileManager(null, null, null)) {
      JavacTask task = (JavacTask) compiler.getTask(null, files, null, null, null, files.getJavaFileObjects(source));
      CompilationUnitTree unit = task.parse().iterator().next();
      LanguageRules rules = new LanguageRules(unit, Trees.instance(task).getSourcePositions());
      rules.collectNames();
      rules.scan(unit, null);
      rules.checkDepth();
      return rules.wrong;
    }
  }

  public static void main(String[] args) throws IOException {
    int wrong = faultsOf(Path.of(System.getProperty("source", "src/main/java/RefinedSpline.java")));
    System.out.println("LanguageRules: " + (wrong == 0 ? "the source keeps to the rules" : wrong + " faults"));
    if (wrong != 0) System.exit(1);
  }
}
