import java.lang.reflect.Constructor;
import java.lang.reflect.Field;
import java.lang.reflect.Method;
import java.lang.reflect.Modifier;
import java.util.List;
import java.util.TreeSet;

/** The class shows the document's face, and nothing beside it. */
public final class FaceTest {
  private static final String NO_SUCH = " throws java.util.NoSuchElementException";
  private static final String ARGUMENT = "java.lang.IllegalArgumentException";
  private static final String STATE = "java.lang.IllegalStateException";
  private static final List<String> FACE = List.of(
      "public FrameRow()",
      "public int FrameRow.call(int)" + NO_SUCH + "," + STATE,
      "public int FrameRow.leave(int,int)" + NO_SUCH + "," + STATE,
      "public int FrameRow.cut(int,int)" + NO_SUCH,
      "public int FrameRow.get(int,int)" + NO_SUCH,
      "public int FrameRow.put(int,int,int)" + NO_SUCH + "," + ARGUMENT,
      "public int FrameRow.peek(int,int,int)" + NO_SUCH,
      "public int FrameRow.holds(int) throws " + ARGUMENT,
      "public int FrameRow.root(int) throws " + ARGUMENT,
      "public int FrameRow.turn(int,int) throws " + ARGUMENT,
      "public int FrameRow.renew()",
      "public int FrameRow.count(int) throws " + ARGUMENT);

  private static final Checks checks = new Checks();

  public static void main(String[] args) {
    theClass();
    whatItShows();
    fields();
    privateNames();
    classesInside();
    checks.end();
  }

  private static void theClass() {
    checks.due("public final", "public final", Modifier.toString(FrameRow.class.getModifiers()));
    checks.due("no package", "", FrameRow.class.getPackageName());
    checks.due("no class above it", Object.class, FrameRow.class.getSuperclass());
    checks.due("no interface", 0, FrameRow.class.getInterfaces().length);
  }

  private static void whatItShows() {
    TreeSet<String> shown = new TreeSet<>();
    for (Constructor<?> constructor : FrameRow.class.getDeclaredConstructors()) {
      shown.add(constructor.toGenericString());
    }
    for (Method method : FrameRow.class.getDeclaredMethods()) {
      if (!Modifier.isPrivate(method.getModifiers())) {
        shown.add(method.toGenericString());
      }
    }
    checks.due("the face", new TreeSet<>(FACE), shown);
  }

  private static void fields() {
    for (Field field : FrameRow.class.getDeclaredFields()) {
      int modifiers = field.getModifiers();
      checks.due("private: " + field, true, Modifier.isPrivate(modifiers));
      if (Modifier.isStatic(modifiers)) {
        checks.due("static and final: " + field, true, Modifier.isFinal(modifiers));
      }
    }
  }

  /** LANGUAGE.md, rule 1: no private method bears the name of a public one. */
  private static void privateNames() {
    TreeSet<String> shown = new TreeSet<>();
    for (Method method : FrameRow.class.getMethods()) {
      shown.add(method.getName());
    }
    for (Method method : FrameRow.class.getDeclaredMethods()) {
      if (Modifier.isPrivate(method.getModifiers())) {
        checks.due("a name of its own: " + method, false, shown.contains(method.getName()));
      }
    }
  }

  private static void classesInside() {
    for (Class<?> inside : FrameRow.class.getDeclaredClasses()) {
      int modifiers = inside.getModifiers();
      checks.due("static: " + inside, true, Modifier.isStatic(modifiers));
      checks.due("not shown to all: " + inside, false,
          Modifier.isPublic(modifiers) || Modifier.isProtected(modifiers));
    }
  }
}
