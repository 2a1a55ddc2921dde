import java.util.function.Supplier;

/** The document from its first line: each sentence that says something of a call, in its words. */
public final class SentencesTest {
  private static final int MIN = Integer.MIN_VALUE;
  private static final int MAX = Integer.MAX_VALUE;

  private static final Checks checks = new Checks();
  private static String sentence = "";

  public static void main(String[] args) {
    whatItIs();
    terms();
    exceptions();
    newObject();
    call();
    leave();
    cut();
    get();
    put();
    peek();
    holds();
    root();
    turn();
    renew();
    count();
    checks.end();
  }

  private static void says(String words) {
    sentence = words;
  }

  private static void due(Frames x, int want, Call call) {
    checks.due(sentence + " " + call, Integer.toString(want), call.on(x));
  }

  private static void dueThrows(Class<?> want, Frames x, Call call) {
    checks.due(sentence + " " + call, Call.thrown(want), call.on(x));
  }

  private static void dueSame(String what, Supplier<Run> want, Supplier<Run> got) {
    checks.due(sentence + " " + what, Reading.of(want), Reading.of(got));
  }

  /** The state with all these calls made on one object. */
  private static Supplier<Run> with(State state, Call... calls) {
    return () -> {
      Run x = state.run();
      for (Call call : calls) {
        call.on(x);
      }
      return x;
    };
  }

  private static void dueUpperFrame(Frames x, int mutator, int... values) {
    for (int slot = 0; slot < values.length; slot++) {
      due(x, values[slot], Call.get(mutator, slot));
    }
  }

  private static void dueRoots(Frames x, int... values) {
    for (int k = 0; k < values.length; k++) {
      due(x, values[k], Call.root(k));
    }
  }

  private static void whatItIs() {
    says("Frames of several mutators, one over the other, and globals that all of them share, in"
        + " one row; values in them can be looked for, changed everywhere at once, and told anew by"
        + " their first places.");
    Run x = new Run();
    due(x, 2, Call.call(1));
    due(x, 0, Call.put(1, 4, 50));
    due(x, 0, Call.put(2, 4, 60));
    due(x, 0, Call.put(0, 9, 50));
    due(x, 50, Call.get(3, 9));
    due(x, 2, Call.holds(50));
    due(x, 2, Call.turn(50, 70));
    dueRoots(x, 70, 60, 70, 0);
    due(x, 2, Call.renew());
    dueRoots(x, 1, 2, 1, 0);

    says("An object is used for at most 512 calls after it has been made");
    Run last = new Run();
    for (int i = 1; i < 512; i++) {
      due(last, i - 1, Call.put(3, 23, i));
    }
    due(last, 511, Call.get(0, 23));
  }

  private static void terms() {
    mutatorsAndFrames();
    slotsGlobalsAndValues();
    places();
    theOrder();
  }

  private static void mutatorsAndFrames() {
    says("MUTATORS are 0 .. 3.");
    for (int m = 0; m < 4; m++) {
      due(new Run(), 2, Call.call(m));
    }
    dueThrows(Checks.NO_SUCH, new Run(), Call.call(-1));
    dueThrows(Checks.NO_SUCH, new Run(), Call.call(4));

    says("Each has FRAMES, one over the other, one at first, 64 at most; a frame has eight SLOTS.");
    for (int m = 0; m < 4; m++) {
      Run x = new Run();
      dueThrows(Checks.NO_SUCH, x, Call.peek(m, 1, 0));
      for (int frame = 0; frame < 64; frame++) {
        due(x, 0, Call.put(m, 7, 100 + frame));
        dueFramesBefore64(x, m, frame);
      }
      for (int frame = 0; frame < 64; frame++) {
        due(x, 100 + frame, Call.peek(m, frame, 7));
      }
      dueThrows(Checks.NO_SUCH, x, Call.peek(m, 64, 0));
      dueThrows(Checks.NO_SUCH, x, Call.peek(m, 63, 8));
    }
  }

  private static void dueFramesBefore64(Frames x, int mutator, int frame) {
    if (frame < 63) {
      due(x, frame + 2, Call.call(mutator));
    } else {
      dueThrows(Checks.STATE, x, Call.call(mutator));
    }
  }

  private static void slotsGlobalsAndValues() {
    says("There are sixteen GLOBALS.");
    Run x = new Run();
    due(x, 4 * 8 + 16, Call.holds(0));
    for (int at = 8; at < 24; at++) {
      due(x, 0, Call.put(at % 4, at, at));
      due(x, at, Call.get((at + 1) % 4, at));
    }
    due(x, 16, Call.count(4));
    dueThrows(Checks.NO_SUCH, x, Call.put(0, 24, 24));

    says("Each slot and global has a VALUE, 0 .. 1000000, 0 (nothing) at first.");
    for (int at : new int[] {0, 7, 8, 23}) {
      Run y = new Run();
      due(y, 0, Call.put(2, at, 1000000));
      due(y, 1000000, Call.put(2, at, 0));
      due(y, 0, Call.put(2, at, 1));
      dueThrows(Checks.ARGUMENT, y, Call.put(2, at, 1000001));
      dueThrows(Checks.ARGUMENT, y, Call.put(2, at, -1));
      due(y, 1, Call.get(2, at));
    }
  }

  private static void places() {
    says("PLACES of a mutator: 0 .. 7 are the slots of its upper frame, 8 .. 23 the globals.");
    for (int m = 0; m < 4; m++) {
      Run x = State.FULL.run();
      due(x, 2, Call.call(m));
      for (int at = 0; at < 8; at++) {
        due(x, 0, Call.put(m, at, 20 + at));
        due(x, 20 + at, Call.peek(m, 1, at));
        due(x, 1000000 - 8 * m - at, Call.peek(m, 0, at));
      }
      for (int at = 8; at < 24; at++) {
        due(x, 1000000 - 24 - at, Call.get(m, at));
        due(x, 1000000 - 24 - at, Call.root(32 + at));
      }
    }
  }

  private static void theOrder() {
    says("THE ORDER of all slots and globals: the slots of mutator 0, frame by frame from the"
        + " lowest one up, those of mutators 1, 2, 3 likewise, then the globals; each frame's slots"
        + " and the globals by ascending numbers.");
    Run x = new Run();
    for (int at = 23; at >= 8; at--) {
      x.put(0, at, 96 + at - 7);
    }
    for (int frame = 0; frame < 3; frame++) {
      for (int m = 3; m >= 0; m--) {
        putInUpperFrame(x, m, 24 * m + 8 * frame + 1);
        growUnless(frame == 2, x, m);
      }
    }
    for (int k = 0; k < 96 + 16; k++) {
      due(x, k + 1, Call.root(k));
    }
    due(x, 0, Call.root(96 + 16));
  }

  private static void putInUpperFrame(Frames x, int mutator, int first) {
    for (int slot = 7; slot >= 0; slot--) {
      x.put(mutator, slot, first + slot);
    }
  }

  private static void growUnless(boolean last, Frames x, int mutator) {
    if (!last) {
      x.call(mutator);
    }
  }

  private static void exceptions() {
    says("NoSuchElementException: there is no such mutator, place, slot or frame.");
    for (int wrong : new int[] {MIN, -1, 4, MAX}) {
      dueThrows(Checks.NO_SUCH, State.FULL.run(), Call.get(wrong, 0));
    }
    for (int wrong : new int[] {MIN, -1, 24, MAX}) {
      dueThrows(Checks.NO_SUCH, State.FULL.run(), Call.get(0, wrong));
    }
    for (int wrong : new int[] {MIN, -1, 8, MAX}) {
      dueThrows(Checks.NO_SUCH, State.FULL.run(), Call.peek(0, 0, wrong));
    }
    for (int wrong : new int[] {MIN, -1, 1, MAX}) {
      dueThrows(Checks.NO_SUCH, State.FULL.run(), Call.peek(0, wrong, 0));
    }

    says("IllegalArgumentException, then IllegalStateException, as told.");
    dueThrows(Checks.NO_SUCH, State.FULL.run(), Call.put(4, 0, -1));
    dueThrows(Checks.NO_SUCH, State.FULL.run(), Call.put(0, 24, 1000001));
    dueThrows(Checks.NO_SUCH, State.FULL.run(), Call.leave(0, 8));
    dueThrows(Checks.NO_SUCH, State.FULL.run(), Call.leave(-1, 0));
    dueThrows(Checks.NO_SUCH, State.TALL_ALL.run(), Call.call(4));

    says("Such a call changes nothing.");
    for (State state : new State[] {State.FULL, State.MIXED, State.TALL_ALL, State.TALL_FULL}) {
      for (Call wrong : wrongCalls()) {
        dueSame("after " + wrong + " when " + state, with(state), with(state, wrong));
      }
    }
    dueSame("after the 65th call", with(State.TALL_ALL), with(State.TALL_ALL, Call.call(2)));
    dueSame("after leave of the only frame", with(State.FULL), with(State.FULL, Call.leave(2, 3)));
  }

  private static Call[] wrongCalls() {
    return new Call[] {
      Call.call(-1), Call.call(4), Call.leave(4, 0), Call.leave(1, 8), Call.leave(1, -1),
      Call.cut(4, 1), Call.cut(1, 0), Call.cut(1, -1), Call.cut(1, 65), Call.get(4, 0),
      Call.get(0, 24), Call.put(4, 8, 5), Call.put(1, 24, 5), Call.put(1, -1, 5),
      Call.put(1, 0, 1000001), Call.put(1, 8, -1), Call.peek(4, 0, 0), Call.peek(1, 64, 0),
      Call.peek(1, 0, 8), Call.holds(-1), Call.root(-1), Call.turn(0, 5), Call.turn(1000001, 5),
      Call.turn(1000000, 1000001), Call.turn(30, -1), Call.count(-1), Call.count(5)
    };
  }

  private static void newObject() {
    says("FrameRow(): One frame each; all values 0.");
    Run x = new Run();
    for (int m = 0; m < 4; m++) {
      dueUpperFrame(x, m, 0, 0, 0, 0, 0, 0, 0, 0);
      due(x, 0, Call.peek(m, 0, 7));
      dueThrows(Checks.NO_SUCH, x, Call.peek(m, 1, 0));
      dueThrows(Checks.NO_SUCH, x, Call.cut(m, 2));
      for (int at = 8; at < 24; at++) {
        due(x, 0, Call.get(m, at));
      }
    }
    due(x, 4, Call.count(0));
    due(x, 1, Call.count(2));
    due(x, 48, Call.holds(0));
  }

  private static void call() {
    says("A new frame over the others of a mutator, its values 0: how many it has.");
    for (int m = 0; m < 4; m++) {
      Run x = State.FULL.run();
      due(x, 2, Call.call(m));
      dueUpperFrame(x, m, 0, 0, 0, 0, 0, 0, 0, 0);
      due(x, 1000000 - 8 * m, Call.peek(m, 0, 0));
      due(x, 3, Call.call(m));
      due(x, 2, Call.call((m + 1) % 4));
      due(x, 48, Call.count(4));
      due(x, 7, Call.count(0));
    }

    says("call: NoSuchElementException: mutator.");
    for (int wrong : new int[] {MIN, -1, 4, MAX}) {
      dueThrows(Checks.NO_SUCH, new Run(), Call.call(wrong));
    }

    says("call: IllegalStateException: it has 64.");
    for (int m = 0; m < 4; m++) {
      Run x = State.tall(m).run();
      dueThrows(Checks.STATE, x, Call.call(m));
      due(x, 1, Call.cut(m, 63));
      due(x, 64, Call.call(m));
    }
  }

  private static void leave() {
    says("The upper frame goes; the value of one of its slots is that of slot 0 of the frame below"
        + " then: how many are left.");
    for (int m = 0; m < 4; m++) {
      for (int slot = 0; slot < 8; slot++) {
        Run x = State.FULL.run();
        State.grow(x, m, 3);
        putInUpperFrame(x, m, 10);
        due(x, 2, Call.leave(m, slot));
        dueUpperFrame(x, m, 10 + slot, 0, 0, 0, 0, 0, 0, 0);
        dueThrows(Checks.NO_SUCH, x, Call.peek(m, 2, 0));
        due(x, 1, Call.leave(m, 0));
        dueUpperFrame(x, m, 10 + slot, 999999 - 8 * m, 999998 - 8 * m, 999997 - 8 * m);
        due(x, 48, Call.count(4));
      }
      Run y = State.FULL.run();
      y.call(m);
      due(y, 1, Call.leave(m, 7));
      due(y, 0, Call.get(m, 0));
    }

    says("leave: NoSuchElementException: mutator or slot.");
    for (int wrong : new int[] {MIN, -1, 4, MAX}) {
      dueThrows(Checks.NO_SUCH, State.TALL_ALL.run(), Call.leave(wrong, 0));
    }
    for (int wrong : new int[] {MIN, -1, 8, MAX}) {
      dueThrows(Checks.NO_SUCH, State.TALL_ALL.run(), Call.leave(3, wrong));
    }

    says("leave: IllegalStateException: it is the only one.");
    for (int m = 0; m < 4; m++) {
      dueThrows(Checks.STATE, State.FULL.run(), Call.leave(m, 7));
      dueThrows(Checks.STATE, State.tall((m + 1) % 4).run(), Call.leave(m, 0));
    }
  }

  private static void cut() {
    says("Frames of a mutator go, till so many are left (nothing else changes): how many went.");
    for (int m = 0; m < 4; m++) {
      Run x = State.tall(m).run();
      due(x, 0, Call.cut(m, 64));
      due(x, 24, Call.cut(m, 40));
      dueThrows(Checks.NO_SUCH, x, Call.peek(m, 40, 0));
      due(x, 0, Call.peek(m, 39, 0));
      due(x, 39, Call.cut(m, 1));
      due(x, 4, Call.count(0));
    }
    for (int m = 0; m < 4; m++) {
      Run x = State.FULL.run();
      x.call(m);
      putInUpperFrame(x, m, 10);
      x.call(m);
      putInUpperFrame(x, m, 20);
      due(x, 2, Call.cut(m, 1));
      for (int k = 0; k < 48; k++) {
        due(x, 1000000 - k, Call.root(k));
      }
      dueCounts(x, 4, 48, 1, 2, 48);
    }

    says("cut: NoSuchElementException: mutator, or it has fewer frames, or frames is below 1.");
    for (int wrong : new int[] {MIN, -1, 4, MAX}) {
      dueThrows(Checks.NO_SUCH, State.FULL.run(), Call.cut(wrong, 1));
    }
    for (int wrong : new int[] {MIN, -1, 0, 3, MAX}) {
      dueThrows(Checks.NO_SUCH, State.MIXED.run(), Call.cut(2, wrong));
    }
  }

  private static void get() {
    says("The value at a place.");
    Run x = State.TALL_FULL.run();
    dueUpperFrame(x, 0, 1000000, 999999, 999998, 999997, 999996, 999995, 999994, 999993);
    dueUpperFrame(x, 1, 223, 222, 221, 220, 219, 218, 217, 216);
    for (int m = 0; m < 4; m++) {
      for (int at = 8; at < 24; at++) {
        due(x, 1000000 - 24 - at, Call.get(m, at));
      }
    }

    says("get: NoSuchElementException: mutator or place.");
    for (int wrong : new int[] {MIN, -1, 4, MAX}) {
      dueThrows(Checks.NO_SUCH, State.FULL.run(), Call.get(wrong, 8));
    }
    for (int wrong : new int[] {MIN, -1, 24, MAX}) {
      dueThrows(Checks.NO_SUCH, State.FULL.run(), Call.get(3, wrong));
    }
  }

  private static void put() {
    says("The value at a place becomes v: what it was.");
    for (int m = 0; m < 4; m++) {
      for (int at = 0; at < 24; at++) {
        int was = at < 8 ? 1000000 - 8 * m - at : 1000000 - 24 - at;
        Run x = State.FULL.run();
        due(x, was, Call.put(m, at, 9));
        due(x, 9, Call.get(m, at));
        due(x, 0, Call.holds(was));
        due(x, 48, Call.count(4));
        due(x, 9, Call.put(m, at, 0));
        due(x, 1, Call.holds(0));
      }
    }

    says("put: NoSuchElementException: mutator or place.");
    for (int wrong : new int[] {MIN, -1, 4, MAX}) {
      dueThrows(Checks.NO_SUCH, State.FULL.run(), Call.put(wrong, 8, 1));
    }
    for (int wrong : new int[] {MIN, -1, 24, MAX}) {
      dueThrows(Checks.NO_SUCH, State.FULL.run(), Call.put(3, wrong, 1));
    }

    says("put: IllegalArgumentException: v is no value.");
    for (int wrong : new int[] {MIN, -1, 1000001, MAX}) {
      dueThrows(Checks.ARGUMENT, State.FULL.run(), Call.put(0, 0, wrong));
      dueThrows(Checks.ARGUMENT, State.FULL.run(), Call.put(3, 23, wrong));
    }
  }

  private static void peek() {
    says("The value of a slot of a frame (0: the lowest one) of a mutator.");
    for (int slot = 0; slot < 8; slot++) {
      Run x = State.TALL_FULL.run();
      due(x, 1000000 - slot, Call.peek(0, 0, slot));
      due(x, 999992 - slot, Call.peek(1, 0, slot));
      for (int frame = 1; frame < 28; frame++) {
        due(x, 8 * frame + 7 - slot, Call.peek(1, frame, slot));
      }
      due(x, 999984 - slot, Call.peek(2, 0, slot));
      due(x, 999976 - slot, Call.peek(3, 0, slot));
    }

    says("peek: NoSuchElementException.");
    for (int wrong : new int[] {MIN, -1, 4, MAX}) {
      dueThrows(Checks.NO_SUCH, State.FULL.run(), Call.peek(wrong, 0, 0));
    }
    for (int wrong : new int[] {MIN, -1, 28, 63, 64, MAX}) {
      dueThrows(Checks.NO_SUCH, State.TALL_FULL.run(), Call.peek(1, wrong, 0));
    }
    for (int wrong : new int[] {MIN, -1, 8, MAX}) {
      dueThrows(Checks.NO_SUCH, State.TALL_FULL.run(), Call.peek(1, 27, wrong));
    }
    dueThrows(Checks.NO_SUCH, State.TALL_FULL.run(), Call.peek(0, 1, 0));
    dueThrows(Checks.NO_SUCH, State.TALL_FULL.run(), Call.peek(2, 27, 7));
  }

  private static void holds() {
    says("How many slots and globals have a value.");
    due(State.SAME.run(), 48, Call.holds(7));
    due(State.SAME.run(), 0, Call.holds(0));
    due(State.FULL.run(), 1, Call.holds(1000000));
    due(State.FULL.run(), 1, Call.holds(1000000 - 47));
    due(State.FULL.run(), 0, Call.holds(1000000 - 48));
    due(State.MIXED.run(), 3, Call.holds(30));
    due(State.MIXED.run(), 57, Call.holds(0));
    due(State.GONE.run(), 48, Call.holds(0));

    says("holds: IllegalArgumentException: v is no value.");
    for (int wrong : new int[] {MIN, -1, 1000001, MAX}) {
      dueThrows(Checks.ARGUMENT, State.FULL.run(), Call.holds(wrong));
    }
  }

  private static void root() {
    says("The k-th (from 0) value in the order that is not 0; 0 if there are fewer.");
    dueRoots(State.MIXED.run(), 30, 20, 10, 20, 30, 40, 30, 0, 0);
    dueRoots(State.NEW.run(), 0, 0);
    due(State.FULL.run(), 1000000 - 47, Call.root(47));
    due(State.FULL.run(), 0, Call.root(48));
    due(State.FULL.run(), 0, Call.root(MAX));

    says("root: IllegalArgumentException: k is below 0.");
    dueThrows(Checks.ARGUMENT, State.FULL.run(), Call.root(-1));
    dueThrows(Checks.ARGUMENT, State.FULL.run(), Call.root(MIN));
  }

  private static void turn() {
    says("Wherever v is, w is then: how many there were.");
    Run x = State.MIXED.run();
    due(x, 3, Call.turn(30, 10));
    dueRoots(x, 10, 20, 10, 20, 10, 40, 10, 0);
    due(x, 4, Call.turn(10, 10));
    due(x, 4, Call.turn(10, 0));
    dueRoots(x, 20, 20, 40, 0);
    due(x, 0, Call.turn(10, 1));
    due(State.SAME.run(), 48, Call.turn(7, 1000000));

    says("turn: IllegalArgumentException: v is 0 or no value, or w no value.");
    for (int wrong : new int[] {MIN, -1, 0, 1000001, MAX}) {
      dueThrows(Checks.ARGUMENT, State.MIXED.run(), Call.turn(wrong, 1));
    }
    for (int wrong : new int[] {MIN, -1, 1000001, MAX}) {
      dueThrows(Checks.ARGUMENT, State.MIXED.run(), Call.turn(30, wrong));
      dueThrows(Checks.ARGUMENT, State.NEW.run(), Call.turn(1, wrong));
    }
  }

  private static void renew() {
    says("The values that are not 0 become 1, 2, 3, .. , in the order of their first places, the"
        + " same ones the same: how many different ones there are.");
    Run mixed = State.MIXED.run();
    due(mixed, 4, Call.renew());
    dueRoots(mixed, 1, 2, 3, 2, 1, 4, 1, 0);
    due(mixed, 57, Call.holds(0));
    Run x = new Run();
    putInUpperFrame(x, 0, 2);
    putInUpperFrame(x, 3, 1);
    due(x, 9, Call.renew());
    dueUpperFrame(x, 0, 1, 2, 3, 4, 5, 6, 7, 8);
    dueUpperFrame(x, 3, 9, 1, 2, 3, 4, 5, 6, 7);
    due(State.NEW.run(), 0, Call.renew());
    due(State.SAME.run(), 1, Call.renew());
    due(State.TALL_FULL.run(), 264, Call.renew());
  }

  private static void count() {
    says("0 frames of all mutators, 1 slots and globals that are not 0, 2 frames of the mutator"
        + " with the most, 3 calls in all, 4 different values that are not 0.");
    dueCounts(State.NEW.run(), 4, 0, 1, 0, 0);
    dueCounts(State.SAME.run(), 4, 48, 1, 0, 1);
    dueCounts(State.MIXED.run(), 6, 7, 2, 2, 4);
    dueCounts(State.GONE.run(), 4, 0, 1, 12, 0);
    dueCounts(State.TALL_ALL.run(), 256, 18, 64, 252, 18);
    for (int m = 0; m < 4; m++) {
      Run x = State.tall(m).run();
      dueThrows(Checks.STATE, x, Call.call(m));
      dueThrows(Checks.NO_SUCH, x, Call.call(4));
      dueCounts(x, 67, 12, 64, 63, 12);
      due(x, 63, Call.leave(m, 0));
      dueCounts(x, 66, 11, 63, 63, 11);
    }

    says("count: IllegalArgumentException: none of these.");
    for (int wrong : new int[] {MIN, -1, 5, MAX}) {
      dueThrows(Checks.ARGUMENT, State.FULL.run(), Call.count(wrong));
    }
  }

  private static void dueCounts(Frames x, int... want) {
    for (int what = 0; what < 5; what++) {
      due(x, want[what], Call.count(what));
    }
  }
}
