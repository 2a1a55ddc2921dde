import java.util.List;
import java.util.function.Consumer;

/** States that a new object is brought into by a script of calls, with 201 calls left at least. */
final class State {
  /** One frame each, no value but 0. */
  static final State NEW = new State("new", x -> {});

  /** One frame each, each place with a value of its own: 1000000, 999999, .. in the order. */
  static final State FULL = new State("full", State::fillOneFrameEach);

  /** One frame each, 7 in each slot and global. */
  static final State SAME = new State("same", State::fillWithSeven);

  /** Mutators 0 and 2 with two frames, and values in lower frames, upper frames and globals. */
  static final State MIXED = new State("mixed", State::mix);

  /** One frame each again, no value but 0, after frames full of values have gone. */
  static final State GONE = new State("gone", State::fillAndCut);

  /** 64 frames each, with values in the first and last slots of the lowest and upper ones. */
  static final State TALL_ALL = new State("tall all", State::growAll);

  /** Mutator 1 with 28 frames, and each slot and global with a value of its own. */
  static final State TALL_FULL = new State("tall full", State::growFull);

  static final List<State> ALL =
      List.of(NEW, FULL, SAME, MIXED, GONE, tall(0), tall(3), TALL_ALL, TALL_FULL);

  private final String name;
  private final Consumer<Frames> script;

  private State(String name, Consumer<Frames> script) {
    this.name = name;
    this.script = script;
  }

  /** One mutator with 64 frames and the others with one, with values as in TALL_ALL. */
  static State tall(int mutator) {
    return new State("tall " + mutator, x -> {
      putAtEnds(x, 10);
      grow(x, mutator, 64);
      putAtEnds(x, 20);
    });
  }

  Run run() {
    Run x = new Run();
    script.accept(x);
    return x;
  }

  /** The run with one call more, whatever it answers. */
  Run runWith(Call call) {
    Run x = run();
    call.on(x);
    return x;
  }

  PlainModel model() {
    PlainModel x = new PlainModel();
    script.accept(x);
    return x;
  }

  @Override
  public String toString() {
    return name;
  }

  static void grow(Frames x, int mutator, int frames) {
    for (int has = 1; has < frames; has++) {
      x.call(mutator);
    }
  }

  private static void putAtEnds(Frames x, int base) {
    for (int mutator = 0; mutator < 4; mutator++) {
      x.put(mutator, 0, base + mutator);
      x.put(mutator, 7, 1000000 - base - mutator);
    }
    x.put(0, 8, base + 8);
    x.put(3, 23, base + 9);
  }

  private static void fillUpperFrame(Frames x, int mutator, int first) {
    for (int slot = 0; slot < 8; slot++) {
      x.put(mutator, slot, first - slot);
    }
  }

  private static void fillGlobals(Frames x, int first) {
    for (int at = 8; at < 24; at++) {
      x.put(0, at, first + 8 - at);
    }
  }

  private static void fillOneFrameEach(Frames x) {
    for (int mutator = 0; mutator < 4; mutator++) {
      fillUpperFrame(x, mutator, 1000000 - 8 * mutator);
    }
    fillGlobals(x, 1000000 - 32);
  }

  private static void fillWithSeven(Frames x) {
    for (int mutator = 0; mutator < 4; mutator++) {
      for (int slot = 0; slot < 8; slot++) {
        x.put(mutator, slot, 7);
      }
    }
    for (int at = 8; at < 24; at++) {
      x.put(0, at, 7);
    }
  }

  private static void mix(Frames x) {
    x.put(0, 1, 30);
    x.put(2, 7, 20);
    x.call(0);
    x.call(2);
    x.put(0, 0, 20);
    x.put(1, 5, 10);
    x.put(2, 3, 30);
    x.put(3, 8, 40);
    x.put(3, 23, 30);
  }

  private static void fillAndCut(Frames x) {
    for (int mutator = 0; mutator < 4; mutator++) {
      grow(x, mutator, 4);
      fillUpperFrame(x, mutator, 100 + 8 * mutator);
    }
    for (int mutator = 0; mutator < 4; mutator++) {
      x.cut(mutator, 1);
    }
  }

  private static void growAll(Frames x) {
    putAtEnds(x, 10);
    for (int mutator = 0; mutator < 4; mutator++) {
      grow(x, mutator, 64);
    }
    putAtEnds(x, 20);
  }

  private static void growFull(Frames x) {
    fillOneFrameEach(x);
    for (int frame = 1; frame < 28; frame++) {
      x.call(1);
      fillUpperFrame(x, 1, 8 * frame + 7);
    }
  }
}
