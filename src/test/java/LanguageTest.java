import com.sun.source.tree.ArrayAccessTree;
import com.sun.source.tree.AssertTree;
import com.sun.source.tree.AssignmentTree;
import com.sun.source.tree.BinaryTree;
import com.sun.source.tree.CompilationUnitTree;
import com.sun.source.tree.CompoundAssignmentTree;
import com.sun.source.tree.DoWhileLoopTree;
import com.sun.source.tree.ExpressionTree;
import com.sun.source.tree.ForLoopTree;
import com.sun.source.tree.ImportTree;
import com.sun.source.tree.InstanceOfTree;
import com.sun.source.tree.LambdaExpressionTree;
import com.sun.source.tree.LiteralTree;
import com.sun.source.tree.MemberReferenceTree;
import com.sun.source.tree.MethodInvocationTree;
import com.sun.source.tree.MethodTree;
import com.sun.source.tree.NewArrayTree;
import com.sun.source.tree.NewClassTree;
import com.sun.source.tree.SynchronizedTree;
import com.sun.source.tree.ThrowTree;
import com.sun.source.tree.Tree;
import com.sun.source.tree.TryTree;
import com.sun.source.tree.TypeCastTree;
import com.sun.source.tree.UnaryTree;
import com.sun.source.tree.VariableTree;
import com.sun.source.tree.WhileLoopTree;
import com.sun.source.util.JavacTask;
import com.sun.source.util.TreePath;
import com.sun.source.util.TreePathScanner;
import com.sun.source.util.Trees;
import java.io.File;
import java.lang.reflect.Field;
import java.lang.reflect.Member;
import java.lang.reflect.Method;
import java.lang.reflect.Modifier;
import java.util.ArrayList;
import java.util.HashMap;
import java.util.HashSet;
import java.util.List;
import java.util.Map;
import java.util.Set;
import java.util.TreeSet;
import javax.lang.model.element.Element;
import javax.lang.model.element.ElementKind;
import javax.lang.model.type.TypeMirror;
import javax.tools.JavaCompiler;
import javax.tools.StandardJavaFileManager;
import javax.tools.ToolProvider;

/** The rules of LANGUAGE.md that a program can look at: the face, the words used, what is called, how deep. */
public final class LanguageTest {
  private static final File SOURCE = new File("src/main/java/RotationOfFarmers.java");
  private static final int MOST_LINES = 60;
  private static final int MOST_PARAMETERS = 7;
  private static final int MOST_DEPTH = 8;
  private static final int MOST_CLASSES = 12;
  private static final int MOST_FIELDS = 20;
  private static final String[] FACE = {
    "int letter(int)", "int land()", "int farm(int,int)", "int farmer(int,int)", "int sits(int,int)",
    "int leaves(int)", "int hearts(int,int,int)", "int steps(int)", "int tires(int,int)", "int turn(int,int,int)",
    "int years(int)", "int heartThen(int,int,int)", "int farmerThen(int,int,int)", "int barnThen(int)",
    "int greenest()", "int lost(int)", "int crop(int,int)", "int bestStep(int,int)", "int send(int)",
    "int change(int)", "int next(int)", "int feed(int,int)", "int settles()", "int round()", "int free(int)",
    "int inHeart()", "int even()", "int two(int,int,int)", "long frost(int,int,int,int)", "long mean(int)",
    "int whoSat(int,int,int)", "int row(int)", "int judge()", "int clear()", "int lots(int,int,int)", "int image()",
    "int on()", "int count(int)"
  };
  private static final Set<String> LIBRARY = Set.of(
      "String.length", "String.charAt", "String.isEmpty", "String.equals", "String.indexOf", "Math.max", "Math.min",
      "System.arraycopy");

  private static final Set<String> TYPES = Set.of("boolean", "char", "int", "long", "void", "int[]", "long[]",
      "java.lang.String");

  public static void main(String[] args) throws Exception {
    face();
    classes();
    source();
    Due.end("LanguageTest");
  }

  private static void face() {
    Class<?> face = RotationOfFarmers.class;
    Due.is("the class is public and final", face.getModifiers(), Modifier.PUBLIC | Modifier.FINAL);
    Due.is("constructors", face.getDeclaredConstructors().length, 1);
    Due.is("public constructors", face.getConstructors().length, 1);
    Set<String> due = new TreeSet<>(List.of(FACE));
    Set<String> got = new TreeSet<>();
    for (Method m : face.getDeclaredMethods()) {
      if (Modifier.isPublic(m.getModifiers())) {
        got.add(signature(m));
        Due.is(m + " throws", m.getExceptionTypes().length, 0);
        Due.isTrue(m + " belongs to an object", !Modifier.isStatic(m.getModifiers()));
      } else {
        isPrivate(m);
      }
    }
    Due.isTrue("the face is " + got, got.equals(due));
    for (Field f : face.getDeclaredFields()) {
      isPrivate(f);
    }
  }

  private static void isPrivate(Member m) {
    Due.isTrue(m + " is private", Modifier.isPrivate(m.getModifiers()) || m.isSynthetic());
  }

  private static String signature(Method m) {
    StringBuilder b = new StringBuilder(m.getReturnType().getName()).append(' ').append(m.getName()).append('(');
    for (int i = 0; i < m.getParameterCount(); i++) {
      b.append(i > 0 ? "," : "").append(m.getParameterTypes()[i].getName());
    }
    return b.append(')').toString();
  }

  private static void classes() {
    List<Class<?>> all = new ArrayList<>(List.of(RotationOfFarmers.class.getDeclaredClasses()));
    Due.isTrue("classes: " + all.size(), all.size() + 1 <= MOST_CLASSES);
    for (Class<?> c : all) {
      Due.isTrue(c + " is static", Modifier.isStatic(c.getModifiers()));
      Due.isTrue(c + " is not public", !Modifier.isPublic(c.getModifiers()) && !Modifier.isProtected(c.getModifiers()));
      Due.is("classes in " + c, c.getDeclaredClasses().length, 0);
    }
    all.add(RotationOfFarmers.class);
    Set<String> faceNames = new HashSet<>();
    for (String f : FACE) {
      faceNames.add(f.substring(f.indexOf(' ') + 1, f.indexOf('(')));
    }
    for (Class<?> c : all) {
      int fields = 0;
      for (Field f : c.getDeclaredFields()) {
        fields += Modifier.isStatic(f.getModifiers()) ? 0 : 1;
        Due.isTrue(f + ": final if static", !Modifier.isStatic(f.getModifiers()) || Modifier.isFinal(f.getModifiers()));
      }
      Due.isTrue("fields of " + c + ": " + fields, fields <= MOST_FIELDS);
      for (Method m : c.getDeclaredMethods()) {
        Due.isTrue(m + ": no other method bears a public one's name",
            Modifier.isPublic(m.getModifiers()) || !faceNames.contains(m.getName()));
      }
    }
  }

  private static void source() throws Exception {
    JavaCompiler compiler = ToolProvider.getSystemJavaCompiler();
    try (StandardJavaFileManager files = compiler.getStandardFileManager(null, null, null)) {
      JavacTask task = (JavacTask) compiler.getTask(null, files, null, List.of("-proc:none"), null,
          files.getJavaFileObjects(SOURCE));
      CompilationUnitTree unit = task.parse().iterator().next();
      task.analyze();
      Due.isTrue("no package line", unit.getPackage() == null);
      Due.is("classes in the file", unit.getTypeDecls().size(), 1);
      Look look = new Look(unit, Trees.instance(task));
      look.scan(unit, null);
      Due.isTrue("methods were looked at", look.calls.size() > FACE.length);
      for (Element method : look.calls.keySet()) {
        int depth = look.depth(method, new HashSet<>());
        Due.isTrue("calls from " + method + " are " + depth + " deep", depth <= MOST_DEPTH);
      }
    }
  }

  /** Goes through the tree; every method is kept with the own methods that it calls. */
  private static final class Look extends TreePathScanner<Void, Void> {
    final Map<Element, Set<Element>> calls = new HashMap<>();
    private final CompilationUnitTree unit;
    private final Trees trees;
    private Element within;

    Look(CompilationUnitTree unit, Trees trees) {
      this.unit = unit;
      this.trees = trees;
    }

    int depth(Element method, Set<Element> above) {
      if (!calls.containsKey(method)) {
        return 0;
      }
      if (!above.add(method)) {
        return 1000;
      }
      int most = 0;
      for (Element called : calls.get(method)) {
        most = Math.max(most, depth(called, above));
      }
      above.remove(method);
      return 1 + most;
    }

    private void no(Tree tree, String what) {
      Due.is(what + " in line " + line(trees.getSourcePositions().getStartPosition(unit, tree)), 1, 0);
    }

    private long line(long position) {
      return unit.getLineMap().getLineNumber(position);
    }

    @Override
    public Void visitMethod(MethodTree tree, Void none) {
      Element outer = within;
      within = trees.getElement(getCurrentPath());
      calls.put(within, new HashSet<>());
      long first = line(trees.getSourcePositions().getStartPosition(unit, tree));
      long last = line(trees.getSourcePositions().getEndPosition(unit, tree));
      Due.isTrue(within + " has " + (last - first + 1) + " lines", last - first < MOST_LINES);
      if (tree.getReturnType() != null) {
        isKnown(tree, typeOf(tree.getReturnType()));
      }
      Due.isTrue("parameters of " + within, tree.getParameters().size() <= MOST_PARAMETERS);
      super.visitMethod(tree, none);
      within = outer;
      return null;
    }

    @Override
    public Void visitMethodInvocation(MethodInvocationTree tree, Void none) {
      Element called = trees.getElement(new TreePath(getCurrentPath(), tree.getMethodSelect()));
      Element owner = called.getEnclosingElement();
      if (isOwn(owner)) {
        calls.get(within).add(called);
      } else if (called.getKind() == ElementKind.METHOD) {
        String name = owner.getSimpleName() + "." + called.getSimpleName();
        Due.isTrue("the library's " + name, LIBRARY.contains(name));
      }
      return super.visitMethodInvocation(tree, none);
    }

    private static boolean isOwn(Element owner) {
      Element top = owner;
      while (top.getEnclosingElement().getKind() != ElementKind.PACKAGE) {
        top = top.getEnclosingElement();
      }
      return top.getSimpleName().contentEquals("RotationOfFarmers");
    }

    /** Objects and arrays are made in constructors alone, so that no call makes any. */
    private void isInConstructor(Tree tree) {
      boolean fine = within == null || within.getKind() == ElementKind.CONSTRUCTOR;
      if (!fine) {
        no(tree, "an object or array made outside a constructor");
      }
    }

    @Override
    public Void visitNewClass(NewClassTree tree, Void none) {
      isInConstructor(tree);
      if (tree.getClassBody() != null) {
        no(tree, "an anonymous class");
      }
      return super.visitNewClass(tree, none);
    }

    @Override
    public Void visitNewArray(NewArrayTree tree, Void none) {
      isInConstructor(tree);
      return super.visitNewArray(tree, none);
    }

    @Override
    public Void visitLiteral(LiteralTree tree, Void none) {
      if (tree.getValue() instanceof String) {
        for (char c : ((String) tree.getValue()).toCharArray()) {
          Due.isTrue("a sign of a text is 1 to 127", c >= 1 && c <= 127);
        }
      }
      return super.visitLiteral(tree, none);
    }

    @Override
    public Void visitImport(ImportTree tree, Void none) {
      no(tree, "an import");
      return null;
    }

    @Override
    public Void visitThrow(ThrowTree tree, Void none) {
      no(tree, "throw");
      return null;
    }

    @Override
    public Void visitTry(TryTree tree, Void none) {
      no(tree, "try");
      return null;
    }

    @Override
    public Void visitSynchronized(SynchronizedTree tree, Void none) {
      no(tree, "synchronized");
      return null;
    }

    @Override
    public Void visitAssert(AssertTree tree, Void none) {
      no(tree, "assert");
      return null;
    }

    @Override
    public Void visitLambdaExpression(LambdaExpressionTree tree, Void none) {
      no(tree, "a lambda");
      return null;
    }

    @Override
    public Void visitMemberReference(MemberReferenceTree tree, Void none) {
      no(tree, "a method reference");
      return null;
    }

    private TypeMirror typeOf(Tree tree) {
      return trees.getTypeMirror(new TreePath(getCurrentPath(), tree));
    }

    private void isKnown(Tree tree, TypeMirror type) {
      boolean own = type.toString().startsWith("RotationOfFarmers");
      if (!own && !TYPES.contains(type.toString())) {
        no(tree, "the type " + type);
      }
    }

    private boolean isText(Tree tree) {
      return typeOf(tree).toString().equals("java.lang.String");
    }

    /** Arrays written out as constants are never changed. */
    private void isNotConstant(ExpressionTree changed) {
      if (changed instanceof ArrayAccessTree) {
        ExpressionTree array = ((ArrayAccessTree) changed).getExpression();
        Element named = trees.getElement(new TreePath(new TreePath(getCurrentPath(), changed), array));
        if (named.getModifiers().contains(javax.lang.model.element.Modifier.STATIC)) {
          no(changed, "a constant array changed");
        }
      }
    }

    @Override
    public Void visitVariable(VariableTree tree, Void none) {
      isKnown(tree, typeOf(tree.getType()));
      return super.visitVariable(tree, none);
    }

    @Override
    public Void visitTypeCast(TypeCastTree tree, Void none) {
      Due.isTrue("a cast to " + tree.getType() + " is among numbers", typeOf(tree.getType()).getKind().isPrimitive());
      return super.visitTypeCast(tree, none);
    }

    @Override
    public Void visitInstanceOf(InstanceOfTree tree, Void none) {
      no(tree, "instanceof, where there are no kinds of objects");
      return null;
    }

    @Override
    public Void visitBinary(BinaryTree tree, Void none) {
      if (isText(tree.getLeftOperand()) || isText(tree.getRightOperand())) {
        no(tree, "texts joined by + or compared by ==");
      }
      return super.visitBinary(tree, none);
    }

    @Override
    public Void visitCompoundAssignment(CompoundAssignmentTree tree, Void none) {
      isNotConstant(tree.getVariable());
      if (isText(tree.getVariable())) {
        no(tree, "texts joined by +=");
      }
      return super.visitCompoundAssignment(tree, none);
    }

    @Override
    public Void visitAssignment(AssignmentTree tree, Void none) {
      isNotConstant(tree.getVariable());
      return super.visitAssignment(tree, none);
    }

    @Override
    public Void visitUnary(UnaryTree tree, Void none) {
      isNotConstant(tree.getExpression());
      return super.visitUnary(tree, none);
    }

    @Override
    public Void visitForLoop(ForLoopTree tree, Void none) {
      if (tree.getCondition() == null) {
        no(tree, "a loop without an end");
      }
      return super.visitForLoop(tree, none);
    }

    @Override
    public Void visitDoWhileLoop(DoWhileLoopTree tree, Void none) {
      no(tree, "do: a bound is easier seen in a for");
      return null;
    }

    @Override
    public Void visitWhileLoop(WhileLoopTree tree, Void none) {
      no(tree, "while: a bound is easier seen in a for");
      return null;
    }
  }
}
