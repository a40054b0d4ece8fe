import com.sun.source.tree.*;
import com.sun.source.util.*;
import java.io.File;
import java.util.*;
import javax.lang.model.element.*;
import javax.lang.model.type.*;
import javax.tools.*;

/** The rules of LANGUAGE.md, as far as they can be told from the text of the class. */
public final class ParityforgeLanguage extends TreePathScanner<Void, Void> {
  static final String FILE = "src/main/java/Parityforge.java";
  static final Set<String> FACE = new TreeSet<>(Arrays.asList(
      ("formula size canBe isValid follows letter setLoop clearWord holds assume wish drop verdict states given next core"
      + " coreAt verdictWith begin step state steps replay node edge setPriority clearGame winner winnerAnew won move"
      + " lasting sum wonShare meanSize isTrue").split(" ")));
  static final Set<String> EXCEPTIONS = new TreeSet<>(Arrays.asList("IllegalStateException", "IllegalArgumentException",
      "IndexOutOfBoundsException", "ArithmeticException", "UnsupportedOperationException", "NoSuchElementException",
      "RuntimeException"));
  static final Set<String> CALLS = new TreeSet<>(Arrays.asList("java.lang.Integer.bitCount(int)",
      "java.lang.Long.bitCount(long)", "java.lang.Math.min(int,int)", "java.lang.Math.max(int,int)",
      "java.util.Arrays.copyOf(int[],int)", "java.util.Arrays.copyOf(long[],int)", "java.util.Arrays.fill(int[],int)",
      "java.lang.System.arraycopy(java.lang.Object,int,java.lang.Object,int,int)"));
  /** The one method that calls itself, with its depth as an argument (rule 8). */
  static final Set<String> RECURSIVE = new TreeSet<>(Arrays.asList("Parityforge.Game.solve"));

  static int wrong = 0;

  final Trees trees;
  final CompilationUnitTree unit;
  final Map<Element, Set<Element>> calls = new LinkedHashMap<>();
  final Set<String> libraryCalls = new TreeSet<>();
  Element method;
  int classes;
  int methods;
  int loops;

  ParityforgeLanguage(Trees trees, CompilationUnitTree unit) {
    this.trees = trees;
    this.unit = unit;
  }

  void fault(int rule, Tree at, String what) {
    wrong++;
    long place = trees.getSourcePositions().getStartPosition(unit, at);
    System.out.println("rule " + rule + ", line " + unit.getLineMap().getLineNumber(place) + ": " + what);
  }

  Element element() {
    return trees.getElement(getCurrentPath());
  }

  TypeMirror type(Tree tree) {
    return trees.getTypeMirror(new TreePath(getCurrentPath(), tree));
  }

  static boolean isOwn(Element e) {
    Element at = e;
    while (at != null && at.getKind() != ElementKind.PACKAGE) {
      if (at.toString().equals("Parityforge")) return true;
      at = at.getEnclosingElement();
    }
    return false;
  }

  int lines(Tree tree) {
    SourcePositions places = trees.getSourcePositions();
    LineMap map = unit.getLineMap();
    return (int) (map.getLineNumber(places.getEndPosition(unit, tree)) - map.getLineNumber(places.getStartPosition(unit, tree)) + 1);
  }

  // ---- classes, fields and methods: rules 1 to 3, 5, 11

  @Override public Void visitClass(ClassTree tree, Void none) {
    classes++;
    Element e = element();
    Set<Modifier> is = e.getModifiers();
    boolean top = e.getEnclosingElement().getKind() == ElementKind.PACKAGE;
    if (top && !(is.contains(Modifier.PUBLIC) && is.contains(Modifier.FINAL))) fault(1, tree, "the class is not public and final");
    if (!top && (!is.contains(Modifier.STATIC) || is.contains(Modifier.PUBLIC) || is.contains(Modifier.PROTECTED))) {
      fault(1, tree, e + " is not static, or too open");
    }
    if (!top && !is.contains(Modifier.FINAL)) fault(12, tree, e + " could be extended");
    int fields = 0;
    for (Tree member : tree.getMembers()) {
      if (member instanceof BlockTree) fault(5, member, "an initialiser block");
      if (member instanceof VariableTree v && !v.getModifiers().getFlags().contains(Modifier.STATIC)) fields++;
      if (top && member instanceof VariableTree v && !v.getModifiers().getFlags().contains(Modifier.PRIVATE)) fault(1, member, "a field that is not private");
    }
    if (fields > 20) fault(11, tree, e + " has " + fields + " fields");
    return super.visitClass(tree, none);
  }

  @Override public Void visitMethod(MethodTree tree, Void none) {
    methods++;
    ExecutableElement e = (ExecutableElement) element();
    String name = tree.getName().toString();
    boolean top = e.getEnclosingElement().toString().equals("Parityforge");
    boolean open = tree.getModifiers().getFlags().contains(Modifier.PUBLIC);
    boolean closed = tree.getModifiers().getFlags().contains(Modifier.PRIVATE);
    boolean constructor = e.getKind() == ElementKind.CONSTRUCTOR;
    if (top && !constructor && open != FACE.contains(name)) fault(1, tree, name + " is public and not of the face, or the reverse");
    if (top && !open && !closed) fault(1, tree, name + " is neither public nor private");
    if (!top && open) fault(1, tree, name + " is public inside");
    if (!(top && open) && FACE.contains(name)) fault(1, tree, e.getEnclosingElement() + "." + name + " bears a public name");
    if (tree.getParameters().size() > 7) fault(11, tree, name + " takes too much");
    if (lines(tree) > 60) fault(11, tree, name + " is long: " + lines(tree));
    if (name.equals("equals") || name.equals("hashCode") || name.equals("toString")) fault(6, tree, name);
    Element before = method;
    method = e;
    calls.put(e, new LinkedHashSet<>());
    super.visitMethod(tree, none);
    method = before;
    return null;
  }

  @Override public Void visitVariable(VariableTree tree, Void none) {
    Set<Modifier> is = tree.getModifiers().getFlags();
    boolean field = element().getKind() == ElementKind.FIELD;
    if (field && is.contains(Modifier.STATIC)) {
      String of = type(tree.getType()).toString();
      if (!is.contains(Modifier.FINAL)) fault(5, tree, tree.getName() + " is static and not final");
      boolean row = of.equals("int[]") && tree.getInitializer() instanceof NewArrayTree a && a.getInitializers() != null;
      boolean plain = of.equals("int") || of.equals("long") || of.equals("char") || of.equals("boolean");
      if (!row && !plain) fault(5, tree, tree.getName() + " is a static " + of);
      if (plain && ((VariableElement) element()).getConstantValue() == null) fault(5, tree, tree.getName() + " is no constant");
    }
    checkType(tree, type(tree.getType()));
    return super.visitVariable(tree, none);
  }

  void checkType(Tree at, TypeMirror type) {
    TypeMirror inner = type.getKind() == TypeKind.ARRAY ? ((ArrayType) type).getComponentType() : type;
    if (inner.getKind().isPrimitive() || inner.getKind() == TypeKind.VOID) return;
    if (inner.getKind() == TypeKind.DECLARED && isOwn(((DeclaredType) inner).asElement())) return;
    fault(3, at, "the type " + type);
  }

  // ---- what is called: rules 4, 8, 11, 12

  @Override public Void visitMethodInvocation(MethodInvocationTree tree, Void none) {
    Element e = element();
    if (isOwn(e)) {
      if (method != null) calls.get(method).add(e);
    } else if (!e.toString().equals("super()")) {
      String text = e.getEnclosingElement() + "." + e;
      if (text.equals("java.lang.Object.Object()")) return super.visitMethodInvocation(tree, none);
      libraryCalls.add(text);
      if (method != null) calls.get(method).add(e);
      if (!CALLS.contains(text)) fault(4, tree, text);
    }
    return super.visitMethodInvocation(tree, none);
  }

  @Override public Void visitNewClass(NewClassTree tree, Void none) {
    Element e = element();
    if (isOwn(e)) {
      if (method != null) calls.get(method).add(e);
    } else if (!EXCEPTIONS.contains(tree.getIdentifier().toString())) {
      fault(4, tree, "new " + tree.getIdentifier());
    }
    if (tree.getClassBody() != null) fault(2, tree, "an anonymous class");
    return super.visitNewClass(tree, none);
  }

  // ---- what is thrown: rule 6

  @Override public Void visitThrow(ThrowTree tree, Void none) {
    boolean made = tree.getExpression() instanceof NewClassTree n && EXCEPTIONS.contains(n.getIdentifier().toString())
        && (n.getArguments().isEmpty() || n.getArguments().get(0) instanceof LiteralTree);
    if (!made) fault(6, tree, "throws something else");
    if (method.getKind() == ElementKind.CONSTRUCTOR) fault(6, tree, "throws in a constructor");
    if (!method.getEnclosingElement().toString().equals("Parityforge")) fault(6, tree, "throws inside");
    return super.visitThrow(tree, none);
  }

  // ---- what does not stand in the class at all

  @Override public Void visitTry(TryTree tree, Void none) {
    fault(6, tree, "try");
    return super.visitTry(tree, none);
  }

  @Override public Void visitSynchronized(SynchronizedTree tree, Void none) {
    fault(6, tree, "synchronized");
    return super.visitSynchronized(tree, none);
  }

  @Override public Void visitAssert(AssertTree tree, Void none) {
    fault(6, tree, "assert");
    return super.visitAssert(tree, none);
  }

  @Override public Void visitLambdaExpression(LambdaExpressionTree tree, Void none) {
    fault(2, tree, "a lambda");
    return super.visitLambdaExpression(tree, none);
  }

  @Override public Void visitMemberReference(MemberReferenceTree tree, Void none) {
    fault(2, tree, "a method reference");
    return super.visitMemberReference(tree, none);
  }

  @Override public Void visitInstanceOf(InstanceOfTree tree, Void none) {
    fault(6, tree, "instanceof");
    return super.visitInstanceOf(tree, none);
  }

  @Override public Void visitSwitchExpression(SwitchExpressionTree tree, Void none) {
    fault(10, tree, "a switch that answers");
    return super.visitSwitchExpression(tree, none);
  }

  @Override public Void visitLiteral(LiteralTree tree, Void none) {
    if (tree.getValue() instanceof String || tree.getValue() instanceof Double || tree.getValue() instanceof Float) {
      fault(3, tree, "" + tree.getValue());
    }
    return super.visitLiteral(tree, none);
  }

  @Override public Void visitTypeCast(TypeCastTree tree, Void none) {
    if (!type(tree.getType()).getKind().isPrimitive()) fault(6, tree, "a cast to a class");
    return super.visitTypeCast(tree, none);
  }

  // ---- loops: rule 9

  @Override public Void visitForLoop(ForLoopTree tree, Void none) {
    loops++;
    boolean counts = tree.getUpdate().size() == 1 && tree.getCondition() != null;
    if (!counts) fault(9, tree, "a loop without a counter");
    return super.visitForLoop(tree, none);
  }

  @Override public Void visitWhileLoop(WhileLoopTree tree, Void none) {
    loops++;
    // Each of these takes one away from a number that its condition holds above a bound.
    String condition = tree.getCondition().toString();
    String body = tree.getStatement().toString();
    boolean falls = false;
    for (String number : new String[] {"at", "living", "roots"}) {
      falls |= condition.contains(number + " > ") && body.contains(number + "--");
    }
    if (!falls) fault(9, tree, "a loop whose end is not seen: " + condition);
    return super.visitWhileLoop(tree, none);
  }

  @Override public Void visitDoWhileLoop(DoWhileLoopTree tree, Void none) {
    fault(9, tree, "do");
    return super.visitDoWhileLoop(tree, none);
  }

  @Override public Void visitEnhancedForLoop(EnhancedForLoopTree tree, Void none) {
    if (type(tree.getExpression()).getKind() != TypeKind.ARRAY) fault(12, tree, "a loop with an iterator");
    return super.visitEnhancedForLoop(tree, none);
  }

  // ---- how deep calls go, those of the library too: rules 8 and 11

  String nameOf(Element e) {
    return e.getEnclosingElement() + "." + e.getSimpleName();
  }

  int depth(Element e, List<Element> open) {
    if (open.contains(e)) {
      boolean known = RECURSIVE.contains(nameOf(e)) && open.get(open.size() - 1) == e
          && e.getModifiers().contains(Modifier.STATIC) && e.getModifiers().contains(Modifier.PRIVATE);
      if (!known) {
        wrong++;
        System.out.println("rule 8: " + nameOf(e) + " is called again");
      }
      return 0;
    }
    open.add(e);
    int deepest = 0;
    for (Element to : calls.getOrDefault(e, Set.of())) deepest = Math.max(deepest, depth(to, open));
    open.remove(open.size() - 1);
    return deepest + 1;
  }

  void checkDepths() {
    int most = 0;
    for (Element e : calls.keySet()) {
      if (nameOf(e).startsWith("Parityforge.") && e.getModifiers().contains(Modifier.PUBLIC)) {
        int deep = depth(e, new ArrayList<>());
        most = Math.max(most, deep);
        if (deep > 8) {
          wrong++;
          System.out.println("rule 11: " + e + " goes " + deep + " deep");
        }
      }
    }
    Set<Element> called = new LinkedHashSet<>();
    for (Set<Element> to : calls.values()) called.addAll(to);
    for (Element e : calls.keySet()) {
      boolean made = e.getKind() == ElementKind.CONSTRUCTOR;
      if (!called.contains(e) && !made && !e.getModifiers().contains(Modifier.PUBLIC)) {
        wrong++;
        System.out.println(nameOf(e) + " is never called");
      }
    }
    if (classes > 12) {
      wrong++;
      System.out.println("rule 11: " + classes + " classes");
    }
    System.out.println(classes + " classes, " + methods + " methods, " + loops + " loops, calls " + most + " deep, " + libraryCalls);
  }

  public static void main(String[] args) throws Exception {
    JavaCompiler compiler = ToolProvider.getSystemJavaCompiler();
    StandardJavaFileManager files = compiler.getStandardFileManager(null, null, null);
    JavacTask task = (JavacTask) compiler.getTask(null, files, null, List.of("-proc:none"), null,
        files.getJavaFileObjects(new File(args.length > 0 ? args[0] : FILE)));
    CompilationUnitTree unit = task.parse().iterator().next();
    task.analyze();
    ParityforgeLanguage rules = new ParityforgeLanguage(Trees.instance(task), unit);
    rules.scan(unit, null);
    rules.checkDepths();
    String text = unit.getSourceFile().getCharContent(true).toString();
    for (int i = 0; i < text.length(); i++) {
      if (text.charAt(i) > 126) {
        wrong++;
        System.out.println("rule 4: a sign above 126");
      }
    }
    if (unit.getPackage() != null || unit.getTypeDecls().size() != 1) {
      wrong++;
      System.out.println("rule 1: a package line, or more than one class");
    }
    System.out.println(wrong + " against the rules");
    if (wrong != 0) System.exit(1);
  }
}
