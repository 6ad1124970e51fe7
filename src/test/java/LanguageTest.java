import com.sun.source.tree.*;
import com.sun.source.util.JavacTask;
import com.sun.source.util.SourcePositions;
import com.sun.source.util.TreePath;
import com.sun.source.util.TreePathScanner;
import com.sun.source.util.Trees;
import java.nio.file.Files;
import java.nio.file.Path;
import java.util.ArrayList;
import java.util.EnumSet;
import java.util.List;
import java.util.Map;
import java.util.Set;
import java.util.TreeMap;
import java.util.TreeSet;
import javax.lang.model.element.Element;
import javax.lang.model.element.ElementKind;
import javax.lang.model.element.ExecutableElement;
import javax.lang.model.element.Modifier;
import javax.lang.model.element.TypeElement;
import javax.lang.model.type.TypeKind;
import javax.lang.model.type.TypeMirror;
import javax.tools.JavaCompiler;
import javax.tools.StandardJavaFileManager;
import javax.tools.ToolProvider;

/**
 * The rules of LANGUAGE.md, looked up in the tree that the compiler makes of the program; some more strictly than they
 * are: it does without try, instanceof and objects made in a call. Rules 1 and 7 have tests of their own (FaceTest,
 * RandomRunsTest).
 */
public final class LanguageTest extends TreePathScanner<Void, Void> {
  /** Rules 2, 6 and 10: all that the program is made of. */
  private static final Set<Tree.Kind> KNOWN = EnumSet.of(Tree.Kind.COMPILATION_UNIT, Tree.Kind.IMPORT, Tree.Kind.CLASS,
      Tree.Kind.MODIFIERS, Tree.Kind.METHOD, Tree.Kind.VARIABLE, Tree.Kind.BLOCK, Tree.Kind.IF, Tree.Kind.FOR_LOOP,
      Tree.Kind.WHILE_LOOP, Tree.Kind.SWITCH, Tree.Kind.CASE, Tree.Kind.BREAK, Tree.Kind.CONTINUE, Tree.Kind.RETURN,
      Tree.Kind.THROW, Tree.Kind.EXPRESSION_STATEMENT, Tree.Kind.ASSIGNMENT, Tree.Kind.PLUS_ASSIGNMENT,
      Tree.Kind.MINUS_ASSIGNMENT, Tree.Kind.POSTFIX_INCREMENT, Tree.Kind.POSTFIX_DECREMENT, Tree.Kind.UNARY_MINUS,
      Tree.Kind.LOGICAL_COMPLEMENT, Tree.Kind.PLUS, Tree.Kind.MINUS, Tree.Kind.MULTIPLY, Tree.Kind.DIVIDE,
      Tree.Kind.CONDITIONAL_AND, Tree.Kind.CONDITIONAL_OR, Tree.Kind.CONDITIONAL_EXPRESSION, Tree.Kind.EQUAL_TO,
      Tree.Kind.NOT_EQUAL_TO, Tree.Kind.LESS_THAN, Tree.Kind.LESS_THAN_EQUAL, Tree.Kind.GREATER_THAN,
      Tree.Kind.GREATER_THAN_EQUAL, Tree.Kind.PARENTHESIZED, Tree.Kind.IDENTIFIER, Tree.Kind.MEMBER_SELECT,
      Tree.Kind.METHOD_INVOCATION, Tree.Kind.NEW_CLASS, Tree.Kind.NEW_ARRAY, Tree.Kind.ARRAY_ACCESS,
      Tree.Kind.ARRAY_TYPE, Tree.Kind.PRIMITIVE_TYPE, Tree.Kind.TYPE_CAST, Tree.Kind.INT_LITERAL,
      Tree.Kind.CHAR_LITERAL, Tree.Kind.STRING_LITERAL, Tree.Kind.BOOLEAN_LITERAL);
  private static final Set<String> IMPORTS = Set.of("java.util.Arrays", "java.util.NoSuchElementException");
  private static final Set<String> LIBRARY = Set.of("java.lang.System.arraycopy", "java.util.Arrays.fill",
      "java.lang.String.charAt", "java.lang.Object.<init>");
  private static final Set<String> EXCEPTIONS = Set.of("java.lang.IllegalStateException",
      "java.lang.IllegalArgumentException", "java.lang.IndexOutOfBoundsException", "java.lang.ArithmeticException",
      "java.lang.UnsupportedOperationException", "java.util.NoSuchElementException");

  private final Trees trees;
  private final CompilationUnitTree unit;
  private final TreeSet<String> seen = new TreeSet<>();
  private final Map<String, TreeSet<String>> calls = new TreeMap<>();
  private final TreeSet<String> face = new TreeSet<>();
  private String method = "";
  private int classes;

  private LanguageTest(Trees trees, CompilationUnitTree unit) {
    this.trees = trees;
    this.unit = unit;
  }

  public static void main(String[] args) throws Exception {
    Path file = Path.of("src", "main", "java", "MarrowHeap.java");
    checkText(Files.readAllLines(file));
    JavaCompiler compiler = ToolProvider.getSystemJavaCompiler();
    try (StandardJavaFileManager files = compiler.getStandardFileManager(null, null, null)) {
      JavacTask task = (JavacTask) compiler.getTask(null, files, null, List.of("-proc:none", "--release", "17"), null,
          files.getJavaFileObjects(file));
      CompilationUnitTree unit = task.parse().iterator().next();
      task.analyze();
      LanguageTest test = new LanguageTest(Trees.instance(task), unit);
      test.scan(unit, null);
      test.checkCalls();
      Check.yes("it was read: " + test.seen.size() + " sorts of words", test.seen.size() > 35);
    }
    Check.end("LanguageTest");
  }

  private static void checkText(List<String> lines) {
    for (int i = 0; i < lines.size(); i++) {
      String where = "line " + (i + 1);
      for (char sign : lines.get(i).toCharArray()) {
        Check.yes(where + " is ASCII", sign >= 32 && sign < 127);
      }
      Check.yes(where + " is short", lines.get(i).length() <= 120);
    }
  }

  // ---- where it is

  private String where(Tree tree) {
    SourcePositions positions = trees.getSourcePositions();
    return "line " + unit.getLineMap().getLineNumber(positions.getStartPosition(unit, tree)) + " (" + tree.getKind() + ")";
  }

  private int lines(Tree tree) {
    SourcePositions positions = trees.getSourcePositions();
    long from = unit.getLineMap().getLineNumber(positions.getStartPosition(unit, tree));
    long to = unit.getLineMap().getLineNumber(positions.getEndPosition(unit, tree));
    return (int) (to - from + 1);
  }

  private Element element(Tree tree) {
    return trees.getElement(TreePath.getPath(unit, tree));
  }

  private TypeMirror type(Tree tree) {
    return trees.getTypeMirror(TreePath.getPath(unit, tree));
  }

  private static String full(Element element) {
    return ((TypeElement) element.getEnclosingElement()).getQualifiedName() + "." + element.getSimpleName();
  }

  private static boolean isOwn(String name) {
    return name.equals("MarrowHeap") || name.startsWith("MarrowHeap.");
  }

  @Override
  public Void scan(Tree tree, Void nothing) {
    if (tree != null) {
      seen.add(tree.getKind().name());
      Check.yes(where(tree) + " is among what the rules leave", KNOWN.contains(tree.getKind()));
    }
    return super.scan(tree, nothing);
  }

  // ---- rules 1, 2, 5, 11: classes and fields

  @Override
  public Void visitImport(ImportTree tree, Void nothing) {
    Check.yes(where(tree) + ": " + tree, IMPORTS.contains(tree.getQualifiedIdentifier().toString()));
    return super.visitImport(tree, nothing);
  }

  @Override
  public Void visitClass(ClassTree tree, Void nothing) {
    classes++;
    Check.yes("classes: " + classes, classes <= 12);
    Set<Modifier> modifiers = tree.getModifiers().getFlags();
    Tree parent = getCurrentPath().getParentPath().getLeaf();
    if (parent.getKind() == Tree.Kind.CLASS) {
      Check.yes(where(tree) + " is static and private", modifiers.containsAll(Set.of(Modifier.STATIC, Modifier.PRIVATE)));
      Check.sameText(where(tree) + " stands in", ((ClassTree) parent).getSimpleName().toString(), "MarrowHeap");
    } else {
      Check.yes(where(tree) + " is public and final", modifiers.equals(Set.of(Modifier.PUBLIC, Modifier.FINAL)));
      Check.sameText("name", tree.getSimpleName().toString(), "MarrowHeap");
      readFace(tree);
    }
    int fields = 0;
    for (Tree member : tree.getMembers()) {
      Check.no(where(member) + " is no block", member.getKind() == Tree.Kind.BLOCK);
      boolean field = member.getKind() == Tree.Kind.VARIABLE;
      fields += field && !((VariableTree) member).getModifiers().getFlags().contains(Modifier.STATIC) ? 1 : 0;
    }
    Check.yes(where(tree) + ": fields: " + fields, fields <= 20);
    return super.visitClass(tree, nothing);
  }

  private void readFace(ClassTree tree) {
    for (Tree member : tree.getMembers()) {
      if (member.getKind() == Tree.Kind.METHOD
          && ((MethodTree) member).getModifiers().getFlags().contains(Modifier.PUBLIC)) {
        face.add(((MethodTree) member).getName().toString());
      }
    }
    Check.same("methods of the face, and the constructor", face.size(), 46);
  }

  /** Rules 3 and 5: types, and what is static is a constant. */
  @Override
  public Void visitVariable(VariableTree tree, Void nothing) {
    TypeMirror type = type(tree);
    String text = type.toString();
    boolean arrays = text.matches("(int|long|short|byte|char|boolean|double|float)(\\[\\]){0,2}");
    Check.yes(where(tree) + " is of a type of the rules: " + text, arrays || isOwn(text) || text.equals("java.lang.String"));
    Check.no(where(tree) + " is no array of arrays but of numbers", text.equals("boolean[][]"));
    if (tree.getModifiers().getFlags().contains(Modifier.STATIC)) {
      Check.yes(where(tree) + " is final", tree.getModifiers().getFlags().contains(Modifier.FINAL));
      Check.yes(where(tree) + " is a constant", text.matches("int|char|long|boolean|java.lang.String"));
      Check.yes(where(tree) + " is written out", tree.getInitializer() != null);
    }
    return super.visitVariable(tree, nothing);
  }

  // ---- rules 1, 6, 11, 12: methods

  @Override
  public Void visitMethod(MethodTree tree, Void nothing) {
    ExecutableElement it = (ExecutableElement) element(tree);
    String before = method;
    method = full(it) + it.getParameters();
    calls.computeIfAbsent(method, name -> new TreeSet<>());
    Check.yes(where(tree) + ": parameters", tree.getParameters().size() <= 7);
    Check.yes(where(tree) + ": lines " + lines(tree), lines(tree) <= 60);
    boolean open = tree.getModifiers().getFlags().contains(Modifier.PUBLIC);
    boolean construction = it.getKind() == ElementKind.CONSTRUCTOR;
    if (!open && !construction) {
      Check.no(where(tree) + " bears the name of a public one: " + tree.getName(), face.contains(tree.getName().toString()));
    }
    boolean outer = full(it).startsWith("MarrowHeap." + it.getSimpleName());
    Check.yes(where(tree) + " is hidden", open == (outer && face.contains(it.getSimpleName().toString())));
    super.visitMethod(tree, nothing);
    method = before;
    return null;
  }

  @Override
  public Void visitThrow(ThrowTree tree, Void nothing) {
    boolean made = tree.getExpression().getKind() == Tree.Kind.NEW_CLASS;
    Check.yes(where(tree) + " throws what it makes", made);
    if (made) {
      NewClassTree it = (NewClassTree) tree.getExpression();
      Check.yes(where(tree) + " throws one of the rule", EXCEPTIONS.contains(type(it).toString()));
      boolean text = it.getArguments().size() == 1 && it.getArguments().get(0).getKind() == Tree.Kind.STRING_LITERAL;
      Check.yes(where(tree) + " with a written text", text || it.getArguments().isEmpty());
    }
    Check.no(where(tree) + " throws in a constructor", method.contains("<init>"));
    return super.visitThrow(tree, nothing);
  }

  /** A call makes nothing but what it throws; all else is made with the database. */
  @Override
  public Void visitNewClass(NewClassTree tree, Void nothing) {
    Tree parent = getCurrentPath().getParentPath().getLeaf();
    boolean thrown = parent.getKind() == Tree.Kind.THROW;
    boolean field = parent.getKind() == Tree.Kind.VARIABLE && method.isEmpty();
    Check.yes(where(tree) + " is thrown, or made once with its owner", thrown || field);
    Check.yes(where(tree) + " has no body", tree.getClassBody() == null);
    return super.visitNewClass(tree, nothing);
  }

  @Override
  public Void visitNewArray(NewArrayTree tree, Void nothing) {
    Check.yes(where(tree) + " is made once with its owner", method.isEmpty());
    for (ExpressionTree length : tree.getDimensions()) {
      Check.yes(where(tree) + " has a constant as its length", isConstant(length));
    }
    return super.visitNewArray(tree, nothing);
  }

  private boolean isConstant(ExpressionTree tree) {
    boolean named = tree.getKind() == Tree.Kind.IDENTIFIER && element(tree).getModifiers().contains(Modifier.STATIC);
    return tree.getKind() == Tree.Kind.INT_LITERAL || named;
  }

  // ---- rules 3, 6, 10: what is reckoned

  @Override
  public Void visitBinary(BinaryTree tree, Void nothing) {
    TypeMirror left = type(tree.getLeftOperand());
    TypeMirror right = type(tree.getRightOperand());
    Tree.Kind kind = tree.getKind();
    boolean both = left.getKind().isPrimitive() && right.getKind().isPrimitive();
    Check.yes(where(tree) + " is of numbers, or of truths", both);
    if (kind == Tree.Kind.DIVIDE) {
      Check.yes(where(tree) + " divides no whole numbers", left.getKind() == right.getKind()
          && (left.getKind() == TypeKind.DOUBLE || left.getKind() == TypeKind.FLOAT));
    }
    return super.visitBinary(tree, nothing);
  }

  @Override
  public Void visitCompoundAssignment(CompoundAssignmentTree tree, Void nothing) {
    Check.same(where(tree) + " is of whole numbers", type(tree.getVariable()).getKind().ordinal(), TypeKind.INT.ordinal());
    return super.visitCompoundAssignment(tree, nothing);
  }

  @Override
  public Void visitTypeCast(TypeCastTree tree, Void nothing) {
    Check.yes(where(tree) + " casts numbers", type(tree.getExpression()).getKind().isPrimitive());
    return super.visitTypeCast(tree, nothing);
  }

  // ---- rule 9: loops

  /** A counter against a bound: the condition compares, and the loop's head changes what is compared. */
  @Override
  public Void visitForLoop(ForLoopTree tree, Void nothing) {
    Check.same(where(tree) + ": one counter", tree.getInitializer().size(), 1);
    Check.same(where(tree) + ": one step", tree.getUpdate().size(), 1);
    String counter = ((VariableTree) tree.getInitializer().get(0)).getName().toString();
    String step = tree.getUpdate().get(0).toString();
    String condition = tree.getCondition().toString();
    boolean up = step.equals(counter + "++;") && condition.matches(counter + " (<|<=) .*");
    boolean down = step.equals(counter + "--;") && condition.matches(counter + " >= 0( && .*)?");
    Check.yes(where(tree) + ": " + condition + "; " + step, up || down);
    String body = tree.getStatement().toString();
    Check.no(where(tree) + ": it leaves its counter alone", body.matches("(?s).*\\b" + counter + "( = |\\+\\+|--| [-+]= ).*"));
    return super.visitForLoop(tree, nothing);
  }

  @Override
  public Void visitWhileLoop(WhileLoopTree tree, Void nothing) {
    Check.sameText(where(tree), tree.getCondition().toString(), "(done < steps && collector.step())");
    Check.sameText(where(tree), tree.getStatement().toString().replaceAll("\\s+", " "), "{ done++; }");
    return super.visitWhileLoop(tree, nothing);
  }

  // ---- rules 4, 8, 11, 13: what is called

  @Override
  public Void visitMethodInvocation(MethodInvocationTree tree, Void nothing) {
    ExecutableElement it = (ExecutableElement) element(tree);
    String name = full(it);
    if (isOwn(name)) {
      calls.computeIfAbsent(method, from -> new TreeSet<>()).add(name + it.getParameters());
    } else {
      Check.yes(where(tree) + " calls what the rules leave: " + name, LIBRARY.contains(name));
    }
    return super.visitMethodInvocation(tree, nothing);
  }

  private void checkCalls() {
    int deepest = 0;
    for (String from : calls.keySet()) {
      deepest = Math.max(deepest, depth(from, new ArrayList<>()));
    }
    Check.yes("calls stand open at once: " + deepest, deepest > 2 && deepest <= 8);
  }

  private int depth(String from, List<String> open) {
    Check.no("calls itself: " + from, open.contains(from));
    if (open.contains(from)) {
      return 0;
    }
    open.add(from);
    int deepest = 0;
    for (String to : calls.getOrDefault(from, new TreeSet<>())) {
      deepest = Math.max(deepest, depth(to, open));
    }
    open.remove(from);
    return 1 + deepest;
  }
}
