import com.sun.source.tree.AssertTree;
import com.sun.source.tree.BinaryTree;
import com.sun.source.tree.BlockTree;
import com.sun.source.tree.ClassTree;
import com.sun.source.tree.CompilationUnitTree;
import com.sun.source.tree.CompoundAssignmentTree;
import com.sun.source.tree.DoWhileLoopTree;
import com.sun.source.tree.EnhancedForLoopTree;
import com.sun.source.tree.ExpressionTree;
import com.sun.source.tree.ForLoopTree;
import com.sun.source.tree.IdentifierTree;
import com.sun.source.tree.ImportTree;
import com.sun.source.tree.LambdaExpressionTree;
import com.sun.source.tree.LiteralTree;
import com.sun.source.tree.MemberReferenceTree;
import com.sun.source.tree.MemberSelectTree;
import com.sun.source.tree.MethodInvocationTree;
import com.sun.source.tree.MethodTree;
import com.sun.source.tree.NewArrayTree;
import com.sun.source.tree.NewClassTree;
import com.sun.source.tree.SynchronizedTree;
import com.sun.source.tree.ThrowTree;
import com.sun.source.tree.Tree;
import com.sun.source.tree.TryTree;
import com.sun.source.tree.VariableTree;
import com.sun.source.tree.WhileLoopTree;
import com.sun.source.util.JavacTask;
import com.sun.source.util.TreePath;
import com.sun.source.util.TreePathScanner;
import com.sun.source.util.Trees;
import java.io.IOException;
import java.io.UncheckedIOException;
import java.net.URI;
import java.util.ArrayDeque;
import java.util.Deque;
import java.util.HashSet;
import java.util.List;
import java.util.Map;
import java.util.Set;
import java.util.TreeMap;
import java.util.TreeSet;
import javax.lang.model.element.Element;
import javax.lang.model.element.ElementKind;
import javax.lang.model.element.Modifier;
import javax.lang.model.type.TypeKind;
import javax.lang.model.type.TypeMirror;
import javax.tools.JavaFileObject;
import javax.tools.SimpleJavaFileObject;
import javax.tools.ToolProvider;

/**
 * The rules of LANGUAGE.md that a program can look for, each told by its number. Where a rule leaves more than the class
 * needs, this is the stricter of the two.
 */
final class Rules extends TreePathScanner<Void, Void> {
  private static final int PARAMETERS_MOST = 7;
  private static final int LINES_MOST = 60;
  private static final int DEPTH_MOST = 8;
  private static final int CLASSES_MOST = 12;
  private static final int FIELDS_MOST = 20;

  private static final Set<String> IMPORTS =
      Set.of("java.util.ArrayList", "java.util.Arrays", "java.util.List", "java.util.NoSuchElementException");

  private static final Set<String> EXCEPTIONS =
      Set.of(
          "IllegalStateException", "IllegalArgumentException", "IndexOutOfBoundsException", "ArithmeticException",
          "UnsupportedOperationException", "NoSuchElementException", "RuntimeException");

  private static final Map<String, Set<String>> LIBRARY =
      Map.of(
          "String", Set.of("length", "charAt", "isEmpty", "equals", "indexOf", "substring", "toCharArray", "<init>"),
          "StringBuilder", Set.of("append", "charAt", "setCharAt", "setLength", "deleteCharAt", "reverse", "length", "toString", "<init>"),
          "ArrayList", Set.of("add", "get", "set", "remove", "size", "isEmpty", "clear", "<init>"),
          "List", Set.of("add", "get", "set", "remove", "size", "isEmpty", "clear", "of"),
          "Math", Set.of("max", "min", "abs", "floorDiv", "floorMod"),
          "Integer", Set.of("compare", "max", "min", "bitCount", "compareUnsigned", "divideUnsigned", "remainderUnsigned"),
          "Long", Set.of("compare", "max", "min", "bitCount", "compareUnsigned", "divideUnsigned", "remainderUnsigned"),
          "System", Set.of("arraycopy"),
          "Arrays", Set.of("copyOf", "copyOfRange", "fill"));

  private static final Set<String> CONSTANTS =
      Set.of("int", "long", "boolean", "char", "java.lang.String", "int[]", "long[]", "char[]", "byte[]");

  private final Trees trees;
  private final CompilationUnitTree unit;
  private final Set<String> broken = new TreeSet<>();
  private final Set<String> face = new HashSet<>();
  private final Map<Element, Set<Element>> calls = new TreeMap<>((a, b) -> keyOf(a).compareTo(keyOf(b)));
  private int classes = 0;

  private Rules(Trees trees, CompilationUnitTree unit) {
    this.trees = trees;
    this.unit = unit;
  }

  /** What breaks a rule in a program: the rule's number, and where. */
  static Set<String> brokenIn(String program) {
    JavaFileObject file =
        new SimpleJavaFileObject(URI.create("string:///EventLog.java"), JavaFileObject.Kind.SOURCE) {
          @Override
          public CharSequence getCharContent(boolean ignoreEncodingErrors) {
            return program;
          }
        };
    JavacTask task = (JavacTask) ToolProvider.getSystemJavaCompiler().getTask(null, null, null, List.of("-proc:none"), null, List.of(file));
    try {
      CompilationUnitTree unit = task.parse().iterator().next();
      task.analyze();
      Rules rules = new Rules(Trees.instance(task), unit);
      rules.scan(unit, null);
      rules.lookAtDepth();
      return rules.broken;
    } catch (IOException e) {
      throw new UncheckedIOException(e);
    }
  }

  private static String keyOf(Element method) {
    return method.getEnclosingElement() + "." + method;
  }

  private void look(boolean isRight, int rule, String what, Tree tree) {
    if (!isRight) {
      long line = unit.getLineMap().getLineNumber(trees.getSourcePositions().getStartPosition(unit, tree));
      broken.add(rule + " " + what + " in line " + line);
    }
  }

  @Override
  public Void visitCompilationUnit(CompilationUnitTree tree, Void none) {
    look(tree.getPackageName() == null, 1, "a package", tree);
    look(tree.getTypeDecls().size() == 1, 1, "more than one class outside", tree);
    return super.visitCompilationUnit(tree, none);
  }

  @Override
  public Void visitImport(ImportTree tree, Void none) {
    look(IMPORTS.contains(tree.getQualifiedIdentifier().toString()), 4, "import " + tree.getQualifiedIdentifier(), tree);
    return null;
  }

  @Override
  public Void visitClass(ClassTree tree, Void none) {
    Set<Modifier> modifiers = tree.getModifiers().getFlags();
    Tree around = getCurrentPath().getParentPath().getLeaf();
    classes++;
    look(classes <= CLASSES_MOST, 11, "a class too many", tree);
    if (around instanceof CompilationUnitTree) {
      look(modifiers.contains(Modifier.PUBLIC) && modifiers.contains(Modifier.FINAL), 1, "the class is not public and final", tree);
      nameFace(tree);
    } else {
      look(around instanceof ClassTree, 2, "a local class", tree);
      boolean isStatic = modifiers.contains(Modifier.STATIC) || tree.getKind() != Tree.Kind.CLASS;
      look(isStatic && !modifiers.contains(Modifier.PUBLIC) && !modifiers.contains(Modifier.PROTECTED), 1, "a class inside", tree);
    }
    look(ownFields(tree) <= FIELDS_MOST, 11, "too many fields", tree);
    return super.visitClass(tree, none);
  }

  private void nameFace(ClassTree tree) {
    for (Tree member : tree.getMembers()) {
      if (member instanceof MethodTree method && method.getModifiers().getFlags().contains(Modifier.PUBLIC)) {
        face.add(method.getName().toString());
      }
    }
    face.remove("<init>");
  }

  private static int ownFields(ClassTree tree) {
    int own = 0;
    for (Tree member : tree.getMembers()) {
      if (member instanceof VariableTree field && !field.getModifiers().getFlags().contains(Modifier.STATIC)) {
        own++;
      }
    }
    return own;
  }

  @Override
  public Void visitMethod(MethodTree tree, Void none) {
    Set<Modifier> modifiers = tree.getModifiers().getFlags();
    String name = tree.getName().toString();
    boolean isOfFace = modifiers.contains(Modifier.PUBLIC);
    if (isInOutermostClass()) {
      look(isOfFace || modifiers.contains(Modifier.PRIVATE), 1, name + " is neither public nor private", tree);
    }
    look(isOfFace || !face.contains(name), 1, name + " is a name of the face", tree);
    look(!modifiers.contains(Modifier.SYNCHRONIZED), 6, "synchronized", tree);
    look(tree.getParameters().size() <= PARAMETERS_MOST, 11, name + " has too many parameters", tree);
    look(linesOf(tree) <= LINES_MOST, 11, name + " is too long", tree);
    return super.visitMethod(tree, none);
  }

  private boolean isInOutermostClass() {
    return getCurrentPath().getParentPath().getParentPath().getLeaf() instanceof CompilationUnitTree;
  }

  private long linesOf(Tree tree) {
    long from = unit.getLineMap().getLineNumber(trees.getSourcePositions().getStartPosition(unit, tree));
    long to = unit.getLineMap().getLineNumber(trees.getSourcePositions().getEndPosition(unit, tree));
    return to - from + 1;
  }

  @Override
  public Void visitVariable(VariableTree tree, Void none) {
    Element variable = trees.getElement(getCurrentPath());
    TypeMirror type = variable.asType();
    boolean isCaught = variable.getKind() == ElementKind.EXCEPTION_PARAMETER;
    look(isCaught || isTypeRight(type), 3, "type " + type, tree);
    if (variable.getKind() == ElementKind.FIELD) {
      lookAtField(tree, type);
    }
    return super.visitVariable(tree, none);
  }

  private void lookAtField(VariableTree tree, TypeMirror type) {
    Set<Modifier> modifiers = tree.getModifiers().getFlags();
    if (isInOutermostClass()) {
      look(modifiers.contains(Modifier.PRIVATE), 1, tree.getName() + " is not private", tree);
    }
    if (modifiers.contains(Modifier.STATIC)) {
      boolean isWritten = !(tree.getInitializer() instanceof NewArrayTree row) || row.getInitializers() != null;
      boolean isConstant = modifiers.contains(Modifier.FINAL) && CONSTANTS.contains(type.toString());
      look(isConstant && isWritten, 5, "static " + tree.getName(), tree);
    }
  }

  private static boolean isTypeRight(TypeMirror type) {
    String told = type.toString();
    String element = told.replaceFirst("(\\[\\])+$", "");
    int dimensions = (told.length() - element.length()) / 2;
    boolean isNumber = Set.of("int", "long", "short", "byte", "char", "boolean", "double", "float").contains(element);
    if (dimensions > 0) {
      return dimensions == 1 ? isNumber || isOwn(element) : dimensions == 2 && isNumber;
    }
    return isNumber
        || isOwn(element)
        || Set.of("java.lang.String", "java.lang.StringBuilder", "java.lang.Integer").contains(element)
        || element.matches("java\\.util\\.(Array)?List<(EventLog\\.\\w+|java\\.lang\\.Integer)>");
  }

  private static boolean isOwn(String type) {
    return type.matches("EventLog(\\.\\w+)*");
  }

  @Override
  public Void visitMethodInvocation(MethodInvocationTree tree, Void none) {
    lookAtCall(trees.getElement(getCurrentPath()), tree);
    return super.visitMethodInvocation(tree, none);
  }

  @Override
  public Void visitNewClass(NewClassTree tree, Void none) {
    lookAtCall(trees.getElement(getCurrentPath()), tree);
    return super.visitNewClass(tree, none);
  }

  private void lookAtCall(Element called, Tree tree) {
    String owner = called.getEnclosingElement().toString();
    String simple = called.getEnclosingElement().getSimpleName().toString();
    String name = called.getSimpleName().toString();
    boolean isSuper = owner.equals("java.lang.Object") && name.equals("<init>");
    if (isOwn(owner)) {
      calls.computeIfAbsent(caller(called), k -> new HashSet<>()).add(called);
    } else if (EXCEPTIONS.contains(simple)) {
      look(getCurrentPath().getParentPath().getLeaf() instanceof ThrowTree, 6, "an exception that is not thrown", tree);
    } else if (!isSuper) {
      look(LIBRARY.getOrDefault(simple, Set.of()).contains(name), 4, simple + "." + name, tree);
    }
  }

  /** The method around; for a field's first value the constructor, which stands for all of its class. */
  private Element caller(Element called) {
    for (TreePath path = getCurrentPath(); path != null; path = path.getParentPath()) {
      if (path.getLeaf() instanceof MethodTree) {
        return trees.getElement(path);
      }
      if (path.getLeaf() instanceof ClassTree tree) {
        return constructorOf(trees.getElement(path));
      }
    }
    return called;
  }

  private static Element constructorOf(Element type) {
    for (Element member : type.getEnclosedElements()) {
      if (member.getKind() == ElementKind.CONSTRUCTOR) {
        return member;
      }
    }
    return type;
  }

  private void lookAtDepth() {
    for (Element method : calls.keySet()) {
      if (method.getModifiers().contains(Modifier.PUBLIC)) {
        follow(method, new ArrayDeque<>());
      }
    }
  }

  private void follow(Element method, Deque<String> open) {
    if (open.contains(keyOf(method))) {
      broken.add("8 recursion " + open);
      return;
    }
    open.push(keyOf(method));
    if (open.size() > DEPTH_MOST) {
      broken.add("11 calls too deep " + open);
    }
    for (Element called : calls.getOrDefault(method, Set.of())) {
      follow(called, open);
    }
    open.pop();
  }

  @Override
  public Void visitLambdaExpression(LambdaExpressionTree tree, Void none) {
    look(false, 2, "a lambda", tree);
    return null;
  }

  @Override
  public Void visitMemberReference(MemberReferenceTree tree, Void none) {
    look(false, 2, "a method reference", tree);
    return null;
  }

  @Override
  public Void visitBlock(BlockTree tree, Void none) {
    look(!(getCurrentPath().getParentPath().getLeaf() instanceof ClassTree), 5, "an initialiser block", tree);
    return super.visitBlock(tree, none);
  }

  @Override
  public Void visitThrow(ThrowTree tree, Void none) {
    boolean isRight = tree.getExpression() instanceof NewClassTree made && isExceptionRight(made);
    look(isRight, 6, "a throw", tree);
    MethodTree method = methodAround();
    look(method != null && method.getReturnType() != null, 6, "a throw in a constructor", tree);
    return super.visitThrow(tree, none);
  }

  private static boolean isExceptionRight(NewClassTree made) {
    List<? extends ExpressionTree> given = made.getArguments();
    boolean isWritten = given.isEmpty() || (given.size() == 1 && given.get(0) instanceof LiteralTree);
    return isWritten && EXCEPTIONS.contains(made.getIdentifier().toString());
  }

  private MethodTree methodAround() {
    for (TreePath path = getCurrentPath(); path != null; path = path.getParentPath()) {
      if (path.getLeaf() instanceof MethodTree method) {
        return method;
      }
    }
    return null;
  }

  @Override
  public Void visitTry(TryTree tree, Void none) {
    look(tree.getFinallyBlock() == null && tree.getResources().isEmpty(), 6, "finally or resources", tree);
    MethodTree method = methodAround();
    look(method == null || !method.toString().contains("throw new "), 6, "try in a method that throws", tree);
    return super.visitTry(tree, none);
  }

  @Override
  public Void visitSynchronized(SynchronizedTree tree, Void none) {
    look(false, 6, "synchronized", tree);
    return null;
  }

  @Override
  public Void visitAssert(AssertTree tree, Void none) {
    look(false, 6, "assert", tree);
    return null;
  }

  @Override
  public Void visitBinary(BinaryTree tree, Void none) {
    boolean isEquality = tree.getKind() == Tree.Kind.EQUAL_TO || tree.getKind() == Tree.Kind.NOT_EQUAL_TO;
    look(!isEquality || !(isBoxed(tree.getLeftOperand()) && isBoxed(tree.getRightOperand())), 6, "== between texts", tree);
    look(tree.getKind() != Tree.Kind.PLUS || !isText(typeOf(tree)), 10, "texts joined by +", tree);
    return super.visitBinary(tree, none);
  }

  @Override
  public Void visitCompoundAssignment(CompoundAssignmentTree tree, Void none) {
    look(!isText(typeOf(tree.getVariable())), 10, "texts joined by +=", tree);
    return super.visitCompoundAssignment(tree, none);
  }

  private TypeMirror typeOf(Tree tree) {
    return trees.getTypeMirror(new TreePath(getCurrentPath(), tree));
  }

  private static boolean isText(TypeMirror type) {
    return type != null && type.toString().equals("java.lang.String");
  }

  private boolean isBoxed(Tree tree) {
    TypeMirror type = typeOf(tree);
    return isText(type) || (type != null && type.toString().equals("java.lang.Integer"));
  }

  @Override
  public Void visitForLoop(ForLoopTree tree, Void none) {
    look(tree.getCondition() != null && !tree.getUpdate().isEmpty(), 9, "a loop without a bound", tree);
    return super.visitForLoop(tree, none);
  }

  @Override
  public Void visitWhileLoop(WhileLoopTree tree, Void none) {
    look(hasBound(tree.getCondition()), 9, "a loop without a bound", tree);
    return super.visitWhileLoop(tree, none);
  }

  @Override
  public Void visitDoWhileLoop(DoWhileLoopTree tree, Void none) {
    look(hasBound(tree.getCondition()), 9, "a loop without a bound", tree);
    return super.visitDoWhileLoop(tree, none);
  }

  private static boolean hasBound(ExpressionTree condition) {
    return condition.toString().matches(".*[<>].*");
  }

  @Override
  public Void visitEnhancedForLoop(EnhancedForLoopTree tree, Void none) {
    TypeMirror type = typeOf(tree.getExpression());
    look(type != null && type.getKind() == TypeKind.ARRAY, 12, "a loop over a list", tree);
    return super.visitEnhancedForLoop(tree, none);
  }

  @Override
  public Void visitIdentifier(IdentifierTree tree, Void none) {
    boolean isWhole = tree.getName().contentEquals("this") && !(getCurrentPath().getParentPath().getLeaf() instanceof MemberSelectTree);
    MethodTree method = methodAround();
    boolean isInConstructor = method == null || method.getReturnType() == null;
    look(!isWhole || !isInConstructor, 12, "a constructor that hands out its object", tree);
    return super.visitIdentifier(tree, none);
  }
}
