import java.util.NoSuchElementException;
import java.util.function.IntSupplier;
import java.util.function.ToIntFunction;

/** Compares answers with the ones that are due, and counts those that are not. */
final class Checks {
  static final Class<?> NO_SUCH = NoSuchElementException.class;
  static final Class<?> ARGUMENT = IllegalArgumentException.class;
  static final Class<?> STATE = IllegalStateException.class;

  private int made = 0;
  private int wrong = 0;

  void due(String what, Object want, Object got) {
    made++;
    if (!want.equals(got)) {
      wrong++;
      System.out.println(what + " answered " + got + ", due is " + want);
    }
  }

  /** The call must throw just this class, and all that can be read of x must be as before. */
  void dueThrows(String what, Class<?> want, FrameRow x, ToIntFunction<FrameRow> call) {
    String before = readAll(x);
    due(what, "throws." + want.getSimpleName(), answer(() -> call.applyAsInt(x)));
    due("state after " + what, before, readAll(x));
  }

  static String answer(IntSupplier call) {
    try {
      return Integer.toString(call.getAsInt());
    } catch (RuntimeException e) {
      return "throws." + e.getClass().getSimpleName();
    }
  }

  /** All slots in the order, the globals, and the counts. */
  static String readAll(FrameRow x) {
    StringBuilder text = new StringBuilder();
    for (int mutator = 0; mutator < 4; mutator++) {
      text.append("mutator ").append(mutator).append(':');
      for (int frame = 0; hasFrame(x, mutator, frame); frame++) {
        for (int slot = 0; slot < 8; slot++) {
          text.append(' ').append(x.peek(mutator, frame, slot));
        }
        text.append(';');
      }
    }
    text.append("globals:");
    for (int at = 8; at < 24; at++) {
      text.append(' ').append(x.get(0, at));
    }
    text.append("; counts:");
    for (int what = 0; what < 5; what++) {
      text.append(' ').append(x.count(what));
    }
    return text.toString();
  }

  private static boolean hasFrame(FrameRow x, int mutator, int frame) {
    try {
      x.peek(mutator, frame, 0);
      return true;
    } catch (NoSuchElementException e) {
      return false;
    }
  }

  void end() {
    System.out.println(made + " checks, " + wrong + " wrong");
    if (wrong != 0) {
      System.exit(1);
    }
  }
}
