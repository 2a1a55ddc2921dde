/** Promises 5 to 7 at their bounds: get, put, peek. */
public final class PlaceBoundsTest {
  private static final int[] GOOD_VALUES = {0, 1, 999999, 1000000};

  private static final Checks checks = new Checks();

  public static void main(String[] args) {
    get();
    put();
    putRefused();
    peek();
    peekRefused();
    checks.end();
  }

  private static void due(String what, int want, int got) {
    checks.due(what, want, got);
  }

  private static void get() {
    getAtEachPlaceOfAFullObject();
    getAtEachPlaceOfANewObject();
    getAtTheEndsOfThe64thFrame();
    getSeesTheFrameBelowWhenTheUpperOneWent();
    getOfEachGoodValue();
    getOfNoMutator();
    getOfNoPlace();
    getOfNoMutatorAndNoPlace();
    getChangesNothing();
  }

  private static void getAtEachPlaceOfAFullObject() {
    Run x = State.FULL.run();
    for (int m = 0; m < 4; m++) {
      for (int at = 0; at < 8; at++) {
        due("full: slot " + at + " of " + m, 1000000 - 8 * m - at, x.get(m, at));
      }
      for (int at = 8; at < 24; at++) {
        due("full: global " + at + " by " + m, 1000000 - 32 - (at - 8), x.get(m, at));
      }
    }
  }

  private static void getAtEachPlaceOfANewObject() {
    Run x = State.NEW.run();
    for (int m = 0; m < 4; m++) {
      for (int at = 0; at < 24; at++) {
        due("new: place " + at + " of " + m, 0, x.get(m, at));
      }
    }
  }

  private static void getAtTheEndsOfThe64thFrame() {
    Run x = State.TALL_ALL.run();
    for (int m = 0; m < 4; m++) {
      due("64 frames: first slot", 20 + m, x.get(m, 0));
      due("64 frames: the slot after it", 0, x.get(m, 1));
      due("64 frames: the slot before the last", 0, x.get(m, 6));
      due("64 frames: last slot", 1000000 - 20 - m, x.get(m, 7));
      due("64 frames: first global", 28, x.get(m, 8));
      due("64 frames: the global after it", 0, x.get(m, 9));
      due("64 frames: the global before the last", 0, x.get(m, 22));
      due("64 frames: last global", 29, x.get(m, 23));
    }
  }

  private static void getSeesTheFrameBelowWhenTheUpperOneWent() {
    for (int m = 0; m < 4; m++) {
      Run x = State.TALL_ALL.run();
      x.cut(m, 1);
      due("cut: first slot of the lowest frame", 10 + m, x.get(m, 0));
      due("cut: last slot of the lowest frame", 1000000 - 10 - m, x.get(m, 7));
      due("cut: first global", 28, x.get(m, 8));
      due("cut: last global", 29, x.get(m, 23));
    }
  }

  private static void getOfEachGoodValue() {
    for (int v : GOOD_VALUES) {
      Run x = new Run();
      x.put(0, 0, v);
      x.put(3, 23, v);
      due("get: first place", v, x.get(0, 0));
      due("get: last place", v, x.get(3, 23));
    }
  }

  private static void getOfNoMutator() {
    for (int wrong : Wrong.MUTATORS) {
      checks.dueRefused(Checks.NO_SUCH, State.NEW, Call.get(wrong, 0));
      checks.dueRefused(Checks.NO_SUCH, State.FULL, Call.get(wrong, 7));
      checks.dueRefused(Checks.NO_SUCH, State.FULL, Call.get(wrong, 8));
      checks.dueRefused(Checks.NO_SUCH, State.TALL_ALL, Call.get(wrong, 23));
    }
  }

  private static void getOfNoPlace() {
    for (int wrong : Wrong.PLACES) {
      checks.dueRefused(Checks.NO_SUCH, State.NEW, Call.get(0, wrong));
      checks.dueRefused(Checks.NO_SUCH, State.FULL, Call.get(3, wrong));
      checks.dueRefused(Checks.NO_SUCH, State.TALL_ALL, Call.get(0, wrong));
      checks.dueRefused(Checks.NO_SUCH, State.TALL_ALL, Call.get(3, wrong));
    }
  }

  private static void getOfNoMutatorAndNoPlace() {
    for (int mutator : Wrong.MUTATORS) {
      for (int at : Wrong.PLACES) {
        checks.dueRefused(Checks.NO_SUCH, State.MIXED, Call.get(mutator, at));
      }
    }
  }

  private static void getChangesNothing() {
    checks.dueUnchanged(State.FULL, Call.get(0, 0));
    checks.dueUnchanged(State.FULL, Call.get(3, 23));
  }

  private static void put() {
    putOfEachGoodValue();
    putAnswersWhatItWasInAFullObject();
    putChangesOneSlotAlone();
    putChangesOneGlobalAlone();
    putIsSeenByAllInGlobalsAlone();
    putInThe64thFrameKeepsThe63rd();
    putOfWhatIsThereChangesNothing();
  }

  private static void putOfEachGoodValue() {
    for (int at : new int[] {0, 7, 8, 23}) {
      Run x = new Run();
      int before = 0;
      for (int v : GOOD_VALUES) {
        due("put(2, " + at + ", " + v + ")", before, x.put(2, at, v));
        due("put(2, " + at + ", " + v + "): get", v, x.get(2, at));
        before = v;
      }
      due("put: back to 0", before, x.put(2, at, 0));
      due("put: all are 0 again", 48, x.holds(0));
    }
  }

  private static void putAnswersWhatItWasInAFullObject() {
    Run x = State.FULL.run();
    for (int m = 0; m < 4; m++) {
      for (int at = 0; at < 8; at++) {
        due("put: slot was", 1000000 - 8 * m - at, x.put(m, at, 0));
      }
    }
    for (int at = 8; at < 24; at++) {
      due("put: global was", 1000000 - 24 - at, x.put(at % 4, at, 0));
    }
    due("put: all are 0", 48, x.holds(0));
  }

  private static void putChangesOneSlotAlone() {
    for (int m = 0; m < 4; m++) {
      for (int at = 0; at < 8; at++) {
        Run x = State.FULL.run();
        x.put(m, at, 5);
        dueFullBut(x, 8 * m + at, 5);
      }
    }
  }

  private static void putChangesOneGlobalAlone() {
    for (int at = 8; at < 24; at++) {
      Run x = State.FULL.run();
      x.put(3, at, 5);
      dueFullBut(x, 24 + at, 5);
    }
  }

  private static void dueFullBut(Run x, int place, int v) {
    for (int k = 0; k < 48; k++) {
      int want = k == place ? v : 1000000 - k;
      due("put in the " + place + "-th of the order: root(" + k + ")", want, x.root(k));
    }
  }

  private static void putIsSeenByAllInGlobalsAlone() {
    Run x = new Run();
    x.put(1, 7, 70);
    x.put(1, 8, 80);
    for (int m = 0; m < 4; m++) {
      due("put: the last slot is its own", m == 1 ? 70 : 0, x.get(m, 7));
      due("put: the first global is shared", 80, x.get(m, 8));
    }
  }

  private static void putInThe64thFrameKeepsThe63rd() {
    for (int m = 0; m < 4; m++) {
      Run x = State.TALL_ALL.run();
      due("put: first slot of the 64th was", 20 + m, x.put(m, 0, 1));
      due("put: last slot of the 64th was", 1000000 - 20 - m, x.put(m, 7, 2));
      due("put: first slot of the 64th", 1, x.peek(m, 63, 0));
      due("put: last slot of the 64th", 2, x.peek(m, 63, 7));
      due("put: first slot of the 63rd", 0, x.peek(m, 62, 0));
      due("put: last slot of the 63rd", 0, x.peek(m, 62, 7));
      due("put: first slot of the lowest", 10 + m, x.peek(m, 0, 0));
    }
  }

  private static void putOfWhatIsThereChangesNothing() {
    checks.dueUnchanged(State.NEW, Call.put(0, 0, 0));
    checks.dueUnchanged(State.FULL, Call.put(0, 0, 1000000));
    checks.dueUnchanged(State.SAME, Call.put(3, 23, 7));
  }

  private static void putRefused() {
    putOfNoMutator();
    putOfNoPlace();
    putOfNoValue();
    putOfNoMutatorAndNoPlace();
    putOfNoMutatorAndNoValue();
    putOfNoPlaceAndNoValue();
    putOfNothingGood();
  }

  private static void putOfNoMutator() {
    for (int wrong : Wrong.MUTATORS) {
      checks.dueRefused(Checks.NO_SUCH, State.NEW, Call.put(wrong, 0, 1));
      checks.dueRefused(Checks.NO_SUCH, State.FULL, Call.put(wrong, 7, 0));
      checks.dueRefused(Checks.NO_SUCH, State.FULL, Call.put(wrong, 8, 1));
      checks.dueRefused(Checks.NO_SUCH, State.TALL_ALL, Call.put(wrong, 23, 1000000));
    }
  }

  private static void putOfNoPlace() {
    for (int wrong : Wrong.PLACES) {
      checks.dueRefused(Checks.NO_SUCH, State.NEW, Call.put(0, wrong, 1));
      checks.dueRefused(Checks.NO_SUCH, State.FULL, Call.put(3, wrong, 1));
      checks.dueRefused(Checks.NO_SUCH, State.TALL_ALL, Call.put(0, wrong, 1000000));
      checks.dueRefused(Checks.NO_SUCH, State.TALL_ALL, Call.put(3, wrong, 1000000));
    }
  }

  private static void putOfNoValue() {
    for (int wrong : Wrong.VALUES) {
      checks.dueRefused(Checks.ARGUMENT, State.NEW, Call.put(0, 0, wrong));
      checks.dueRefused(Checks.ARGUMENT, State.FULL, Call.put(3, 7, wrong));
      checks.dueRefused(Checks.ARGUMENT, State.FULL, Call.put(0, 8, wrong));
      checks.dueRefused(Checks.ARGUMENT, State.TALL_ALL, Call.put(3, 23, wrong));
    }
  }

  private static void putOfNoMutatorAndNoPlace() {
    for (int mutator : Wrong.MUTATORS) {
      for (int at : Wrong.PLACES) {
        checks.dueRefused(Checks.NO_SUCH, State.MIXED, Call.put(mutator, at, 1));
      }
    }
  }

  private static void putOfNoMutatorAndNoValue() {
    for (int mutator : Wrong.MUTATORS) {
      for (int v : Wrong.VALUES) {
        checks.dueRefused(Checks.NO_SUCH, State.MIXED, Call.put(mutator, 0, v));
        checks.dueRefused(Checks.NO_SUCH, State.MIXED, Call.put(mutator, 8, v));
      }
    }
  }

  private static void putOfNoPlaceAndNoValue() {
    for (int at : Wrong.PLACES) {
      for (int v : Wrong.VALUES) {
        checks.dueRefused(Checks.NO_SUCH, State.MIXED, Call.put(0, at, v));
        checks.dueRefused(Checks.NO_SUCH, State.MIXED, Call.put(3, at, v));
      }
    }
  }

  private static void putOfNothingGood() {
    for (int mutator : Wrong.MUTATORS) {
      for (int at : Wrong.PLACES) {
        for (int v : Wrong.VALUES) {
          checks.dueRefused(Checks.NO_SUCH, State.MIXED, Call.put(mutator, at, v));
        }
      }
    }
  }

  private static void peek() {
    peekOfTheOnlyFrame();
    peekOfTheLowestAndUpperOf64();
    peekOfEachFrameInBetween();
    peekOfTheUpperFrameIsAsGet();
    peekChangesNothing();
  }

  private static void peekOfTheOnlyFrame() {
    Run x = State.FULL.run();
    for (int m = 0; m < 4; m++) {
      for (int slot = 0; slot < 8; slot++) {
        due("peek(" + m + ", 0, " + slot + ")", 1000000 - 8 * m - slot, x.peek(m, 0, slot));
      }
    }
  }

  private static void peekOfTheLowestAndUpperOf64() {
    Run x = State.TALL_ALL.run();
    for (int m = 0; m < 4; m++) {
      due("peek: first slot of the lowest", 10 + m, x.peek(m, 0, 0));
      due("peek: last slot of the lowest", 1000000 - 10 - m, x.peek(m, 0, 7));
      due("peek: first slot of the second", 0, x.peek(m, 1, 0));
      due("peek: last slot of the 63rd", 0, x.peek(m, 62, 7));
      due("peek: first slot of the 64th", 20 + m, x.peek(m, 63, 0));
      due("peek: last slot of the 64th", 1000000 - 20 - m, x.peek(m, 63, 7));
    }
  }

  private static void peekOfEachFrameInBetween() {
    Run x = State.TALL_FULL.run();
    for (int frame = 1; frame < 28; frame++) {
      for (int slot = 0; slot < 8; slot++) {
        due("peek(1, " + frame + ", " + slot + ")", 8 * frame + 7 - slot, x.peek(1, frame, slot));
      }
    }
  }

  private static void peekOfTheUpperFrameIsAsGet() {
    Run x = State.TALL_FULL.run();
    for (int slot = 0; slot < 8; slot++) {
      due("peek: as get", x.get(1, slot), x.peek(1, 27, slot));
    }
  }

  private static void peekChangesNothing() {
    checks.dueUnchanged(State.FULL, Call.peek(0, 0, 0));
    checks.dueUnchanged(State.TALL_ALL, Call.peek(3, 63, 7));
  }

  private static void peekRefused() {
    peekOfNoMutator();
    peekOfNoFrameOfOne();
    peekOfNoFrameOf64();
    peekOfAFrameThatOthersHave();
    peekOfAFrameThatWent();
    peekOfNoSlot();
    peekOfTwoWrongOnes();
    peekOfNothingGood();
  }

  private static void peekOfNoMutator() {
    for (int wrong : Wrong.MUTATORS) {
      checks.dueRefused(Checks.NO_SUCH, State.NEW, Call.peek(wrong, 0, 0));
      checks.dueRefused(Checks.NO_SUCH, State.TALL_ALL, Call.peek(wrong, 63, 7));
    }
  }

  private static void peekOfNoFrameOfOne() {
    for (int wrong : Wrong.framesBeyond(1)) {
      checks.dueRefused(Checks.NO_SUCH, State.NEW, Call.peek(0, wrong, 0));
      checks.dueRefused(Checks.NO_SUCH, State.FULL, Call.peek(3, wrong, 7));
    }
  }

  private static void peekOfNoFrameOf64() {
    for (int wrong : Wrong.framesBeyond(64)) {
      checks.dueRefused(Checks.NO_SUCH, State.TALL_ALL, Call.peek(0, wrong, 0));
      checks.dueRefused(Checks.NO_SUCH, State.TALL_ALL, Call.peek(3, wrong, 7));
    }
  }

  private static void peekOfAFrameThatOthersHave() {
    checks.dueRefused(Checks.NO_SUCH, State.tall(0), Call.peek(1, 1, 0));
    checks.dueRefused(Checks.NO_SUCH, State.tall(0), Call.peek(3, 63, 0));
    checks.dueRefused(Checks.NO_SUCH, State.TALL_FULL, Call.peek(1, 28, 0));
  }

  private static void peekOfAFrameThatWent() {
    for (int m = 0; m < 4; m++) {
      checks.dueRefused(Checks.NO_SUCH, State.GONE, Call.peek(m, 1, 0));
      checks.dueRefused(Checks.NO_SUCH, State.GONE, Call.peek(m, 3, 7));
    }
  }

  private static void peekOfNoSlot() {
    for (int wrong : Wrong.SLOTS) {
      checks.dueRefused(Checks.NO_SUCH, State.NEW, Call.peek(0, 0, wrong));
      checks.dueRefused(Checks.NO_SUCH, State.FULL, Call.peek(3, 0, wrong));
      checks.dueRefused(Checks.NO_SUCH, State.TALL_ALL, Call.peek(0, 0, wrong));
      checks.dueRefused(Checks.NO_SUCH, State.TALL_ALL, Call.peek(3, 63, wrong));
    }
  }

  private static void peekOfTwoWrongOnes() {
    for (int mutator : Wrong.MUTATORS) {
      for (int frame : Wrong.framesBeyond(2)) {
        checks.dueRefused(Checks.NO_SUCH, State.MIXED, Call.peek(mutator, frame, 0));
      }
      for (int slot : Wrong.SLOTS) {
        checks.dueRefused(Checks.NO_SUCH, State.MIXED, Call.peek(mutator, 0, slot));
      }
    }
    for (int frame : Wrong.framesBeyond(2)) {
      for (int slot : Wrong.SLOTS) {
        checks.dueRefused(Checks.NO_SUCH, State.MIXED, Call.peek(0, frame, slot));
      }
    }
  }

  private static void peekOfNothingGood() {
    for (int mutator : Wrong.MUTATORS) {
      for (int frame : Wrong.framesBeyond(2)) {
        for (int slot : Wrong.SLOTS) {
          checks.dueRefused(Checks.NO_SUCH, State.MIXED, Call.peek(mutator, frame, slot));
        }
      }
    }
  }
}
