/**
 * Each method with all its edge arguments, each with each, in each state: the answer, which is the
 * plain model's, and all that can be read after it. So each pair of wrong arguments is there.
 */
public final class EdgeGridTest {
  private static final int MIN = Integer.MIN_VALUE;
  private static final int MAX = Integer.MAX_VALUE;
  private static final int[] MUTATORS = {MIN, -1, 0, 1, 3, 4, MAX};
  private static final int[] SLOTS = {MIN, -1, 0, 7, 8, MAX};
  private static final int[] PLACES = {MIN, -1, 0, 7, 8, 23, 24, MAX};
  private static final int[] FRAMES = {MIN, -1, 0, 1, 2, 63, 64, 65, MAX};
  private static final int[] VALUES = {MIN, -1, 0, 1, 7, 1000000, 1000001, MAX};
  private static final int[] ROOTS = {MIN, -1, 0, 1, 6, 7, 47, 48, 255, 256, MAX};
  private static final int[] COUNTS = {MIN, -1, 0, 1, 2, 3, 4, 5, MAX};

  private static final Checks checks = new Checks();

  private final State state;
  private final String before;

  private EdgeGridTest(State state) {
    this.state = state;
    this.before = Reading.of(state::run);
  }

  public static void main(String[] args) {
    for (State state : State.ALL) {
      EdgeGridTest grid = new EdgeGridTest(state);
      grid.callsOnFrames();
      grid.callsOnPlaces();
      grid.callsOnSlotsOfFrames();
      grid.callsOnValues();
    }
    checks.end();
  }

  private void callsOnFrames() {
    for (int m : MUTATORS) {
      check(Call.call(m));
      for (int slot : SLOTS) {
        check(Call.leave(m, slot));
      }
      for (int frames : FRAMES) {
        check(Call.cut(m, frames));
      }
    }
  }

  private void callsOnPlaces() {
    for (int m : MUTATORS) {
      for (int at : PLACES) {
        check(Call.get(m, at));
        for (int v : VALUES) {
          check(Call.put(m, at, v));
        }
      }
    }
  }

  private void callsOnSlotsOfFrames() {
    for (int m : MUTATORS) {
      for (int frame : FRAMES) {
        for (int slot : SLOTS) {
          check(Call.peek(m, frame, slot));
        }
      }
    }
  }

  private void callsOnValues() {
    for (int v : VALUES) {
      check(Call.holds(v));
      for (int w : VALUES) {
        check(Call.turn(v, w));
      }
    }
    for (int k : ROOTS) {
      check(Call.root(k));
    }
    for (int what : COUNTS) {
      check(Call.count(what));
    }
    check(Call.renew());
  }

  private void check(Call call) {
    PlainModel model = state.model();
    String want = call.on(model);
    checks.due(call + " when " + state, want, call.on(state.run()));
    String wantThen = want.startsWith("throws.") ? before : Reading.of(() -> model);
    checks.due("what is read after " + call + " when " + state,
        wantThen, Reading.of(() -> state.runWith(call)));
  }
}
