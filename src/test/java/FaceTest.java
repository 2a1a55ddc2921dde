import java.lang.reflect.Constructor;
import java.lang.reflect.Field;
import java.lang.reflect.Method;
import java.lang.reflect.Modifier;
import java.util.TreeSet;

/** The class shows the document's face, and nothing beside it. */
public final class FaceTest {
  private static final String NO_SUCH = " throws java.util.NoSuchElementException";
  private static final String ARGUMENT = "java.lang.IllegalArgumentException";
  private static final String STATE = "java.lang.IllegalStateException";
  private static final String[] FACE = {
    "public FrameRow()",
    "public int FrameRow.call(int)" + NO_SUCH + "," + STATE,
    "public int FrameRow.leave(int,int)" + NO_SUCH + "," + STATE,
    "public int FrameRow.cut(int,int)" + NO_SUCH,
    "public int FrameRow.get(int,int)" + NO_SUCH,
    "public int FrameRow.put(int,int,int)" + NO_SUCH + "," + ARGUMENT,
    "public int FrameRow.peek(int,int,int)" + NO_SUCH,
    "public int FrameRow.holds(int) throws " + ARGUMENT,
    "public int FrameRow.root(int) throws " + ARGUMENT,
    "public int FrameRow.turn(int,int) throws " + ARGUMENT,
    "public int FrameRow.renew()",
    "public int FrameRow.count(int) throws " + ARGUMENT
  };

  public static void main(String[] args) {
    Checks checks = new Checks();
    TreeSet<String> shown = new TreeSet<>();
    for (Constructor<?> constructor : FrameRow.class.getDeclaredConstructors()) {
      shown.add(constructor.toGenericString());
    }
    for (Method method : FrameRow.class.getDeclaredMethods()) {
      if (!Modifier.isPrivate(method.getModifiers())) {
        shown.add(method.toGenericString());
      }
    }
    for (Field field : FrameRow.class.getDeclaredFields()) {
      checks.due("private: " + field, true, Modifier.isPrivate(field.getModifiers()));
    }
    TreeSet<String> due = new TreeSet<>();
    for (String member : FACE) {
      due.add(member);
    }
    checks.due("the face", due, shown);
    checks.due("public final", "public final", Modifier.toString(FrameRow.class.getModifiers()));
    checks.end();
  }
}
