/** An object as full of values as its 512 calls can make it, and one of them left to look at it. */
public final class FullestTest {
  /** 459 values are the most that 511 calls can bring in: 48, then eight for each new frame. */
  private static final int FILLING = Run.MOST_CALLS - 1;
  private static final int VALUES = 459;
  private static final int FRAMES = 56;
  private static final int PLACES = FRAMES * 8 + 16;

  private static final Checks checks = new Checks();

  public static void main(String[] args) {
    lastCallOnDifferentValues();
    lastCallOnTheSameValues();
    eachRoot();
    eachRootAfterRenew();
    eachFrameIsRead();
    checks.end();
  }

  /** The i-th call of a filling: the places of a new object first, then frame after frame. */
  private static Call filling(int i, int v) {
    if (i < 32) {
      return Call.put(i / 8, i % 8, v);
    }
    if (i < 48) {
      return Call.put(0, i - 24, v);
    }
    int mutator = (i - 48) / 9 % 4;
    int slot = (i - 48) % 9 - 1;
    return slot < 0 ? Call.call(mutator) : Call.put(mutator, slot, v);
  }

  private static <T extends Frames> T filledDifferently(T x, int calls) {
    for (int i = 0; i < calls; i++) {
      filling(i, 1000000 - i).on(x);
    }
    return x;
  }

  private static Run filledWithSeven(int calls) {
    Run x = new Run();
    for (int i = 0; i < calls; i++) {
      filling(i, 7).on(x);
    }
    return x;
  }

  private static void dueOfDifferent(int want, Call last) {
    Run x = filledDifferently(new Run(), FILLING);
    checks.due("all different: " + last, Integer.toString(want), last.on(x));
  }

  private static void dueOfSevens(int want, Call last) {
    checks.due("all 7: " + last, Integer.toString(want), last.on(filledWithSeven(FILLING)));
  }

  private static void lastCallOnDifferentValues() {
    dueOfDifferent(FRAMES, Call.count(0));
    dueOfDifferent(VALUES, Call.count(1));
    dueOfDifferent(FRAMES / 4, Call.count(2));
    dueOfDifferent(FRAMES - 4, Call.count(3));
    dueOfDifferent(VALUES, Call.count(4));
    dueOfDifferent(VALUES, Call.renew());
    dueOfDifferent(PLACES - VALUES, Call.holds(0));
    dueOfDifferent(1, Call.holds(1000000));
    dueOfDifferent(1, Call.turn(1000000, 1));
    dueOfDifferent(1000000 - 47, Call.get(2, 23));
    dueOfDifferent(1000000 - 47, Call.put(3, 23, 0));
    dueOfDifferent(FRAMES / 4 + 1, Call.call(3));
    dueOfDifferent(FRAMES / 4 - 1, Call.leave(0, 7));
    dueOfDifferent(FRAMES / 4 - 1, Call.cut(1, 1));
  }

  private static void lastCallOnTheSameValues() {
    dueOfSevens(VALUES, Call.count(1));
    dueOfSevens(1, Call.count(4));
    dueOfSevens(1, Call.renew());
    dueOfSevens(VALUES, Call.holds(7));
    dueOfSevens(VALUES, Call.turn(7, 9));
    dueOfSevens(7, Call.root(VALUES - 1));
    dueOfSevens(0, Call.root(VALUES));
    Run x = filledWithSeven(FILLING - 1);
    checks.due("all 7: turn before the last", VALUES - 1, x.turn(7, 1000000));
    checks.due("all 7: then all are the largest", VALUES - 1, x.holds(1000000));
  }

  private static void eachRoot() {
    PlainModel model = filledDifferently(new PlainModel(), FILLING);
    checks.due("all different: the last root", 1000000 - 47, model.root(VALUES - 1));
    for (int k = 0; k <= VALUES; k++) {
      dueOfDifferent(model.root(k), Call.root(k));
    }
  }

  private static void eachRootAfterRenew() {
    for (int k = 0; k < VALUES; k++) {
      Run x = filledDifferently(new Run(), FILLING - 1);
      checks.due("all different: renew before the last", VALUES - 1, x.renew());
      checks.due("all different: then root(" + k + ")", (k + 1) % VALUES, x.root(k));
    }
  }

  private static void eachFrameIsRead() {
    PlainModel model = filledDifferently(new PlainModel(), FILLING);
    for (int mutator = 0; mutator < 4; mutator++) {
      for (int frame = 0; frame < FRAMES / 4; frame++) {
        for (int slot = 0; slot < 8; slot++) {
          dueOfDifferent(model.peek(mutator, frame, slot), Call.peek(mutator, frame, slot));
        }
      }
    }
  }
}
