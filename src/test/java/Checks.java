import java.util.NoSuchElementException;

/** Compares answers with the ones that are due, and counts those that are not. */
final class Checks {
  static final Class<?> NO_SUCH = NoSuchElementException.class;
  static final Class<?> ARGUMENT = IllegalArgumentException.class;
  static final Class<?> STATE = IllegalStateException.class;

  private int made = 0;
  private int wrong = 0;

  void due(String what, Object want, Object got) {
    made++;
    if (!want.equals(got)) {
      wrong++;
      System.out.println(what + " answered " + got + ", due is " + want);
    }
  }

  /** The call must throw just this class; what it did to x is not looked at. */
  void dueThrows(Class<?> want, Frames x, Call call) {
    due(call.toString(), Call.thrown(want), call.on(x));
  }

  /** The call must throw just this class, and all that can be read must be as before. */
  void dueRefused(Class<?> want, State state, Call call) {
    due(call + " when " + state, Call.thrown(want), call.on(state.run()));
    dueUnchanged(state, call);
  }

  /** The call must leave all that can be read as it was, whether it throws or not. */
  void dueUnchanged(State state, Call call) {
    due("what is read after " + call + " when " + state,
        Reading.of(state::run), Reading.of(() -> state.runWith(call)));
  }

  void end() {
    System.out.println(made + " checks, " + wrong + " wrong");
    if (wrong != 0) {
      System.exit(1);
    }
  }
}
