/** Promises 8 to 11 at their bounds: holds, root, turn, renew. */
public final class ValueBoundsTest {
  private static final Checks checks = new Checks();

  public static void main(String[] args) {
    holds();
    root();
    turn();
    turnRefused();
    renew();
    checks.end();
  }

  private static void due(String what, int want, int got) {
    checks.due(what, want, got);
  }

  private static void holds() {
    holdsOf0();
    holdsOfTheSmallestAndLargestValue();
    holdsOfOneThatIsEverywhere();
    holdsOfOnesThatAreOnceEach();
    holdsAtBothEndsOfTheOrder();
    holdsNoneInFramesThatWent();
    holdsOfNoValue();
    holdsChangesNothing();
  }

  private static void holdsOf0() {
    due("new: all are 0", 48, State.NEW.run().holds(0));
    due("full: none is 0", 0, State.FULL.run().holds(0));
    due("64 frames each: all but 18", 2064 - 18, State.TALL_ALL.run().holds(0));
    due("28 frames, full: none is 0", 0, State.TALL_FULL.run().holds(0));
    due("frames went: all are 0", 48, State.GONE.run().holds(0));
  }

  private static void holdsOfTheSmallestAndLargestValue() {
    Run x = new Run();
    x.put(0, 0, 1);
    x.put(3, 23, 1000000);
    due("holds(1)", 1, x.holds(1));
    due("holds(2)", 0, x.holds(2));
    due("holds(999999)", 0, x.holds(999999));
    due("holds(1000000)", 1, x.holds(1000000));
  }

  private static void holdsOfOneThatIsEverywhere() {
    Run x = State.SAME.run();
    due("same: 7 everywhere", 48, x.holds(7));
    due("same: no 6", 0, x.holds(6));
    due("same: no 8", 0, x.holds(8));
    due("same: no 0", 0, x.holds(0));
  }

  private static void holdsOfOnesThatAreOnceEach() {
    Run x = State.FULL.run();
    due("full: one below them", 0, x.holds(1000000 - 48));
    for (int k = 0; k < 48; k++) {
      due("full: each is there once", 1, x.holds(1000000 - k));
    }
  }

  private static void holdsAtBothEndsOfTheOrder() {
    Run x = new Run();
    x.put(0, 0, 9);
    due("holds: first slot", 1, x.holds(9));
    x.put(3, 7, 9);
    due("holds: last slot", 2, x.holds(9));
    x.put(1, 8, 9);
    due("holds: first global", 3, x.holds(9));
    x.put(2, 23, 9);
    due("holds: last global", 4, x.holds(9));
  }

  private static void holdsNoneInFramesThatWent() {
    Run x = State.GONE.run();
    for (int v = 93; v <= 124; v++) {
      due("frames went: holds(" + v + ")", 0, x.holds(v));
    }
  }

  private static void holdsOfNoValue() {
    for (int wrong : Wrong.VALUES) {
      checks.dueRefused(Checks.ARGUMENT, State.NEW, Call.holds(wrong));
      checks.dueRefused(Checks.ARGUMENT, State.FULL, Call.holds(wrong));
      checks.dueRefused(Checks.ARGUMENT, State.TALL_ALL, Call.holds(wrong));
    }
  }

  private static void holdsChangesNothing() {
    checks.dueUnchanged(State.FULL, Call.holds(1000000));
    checks.dueUnchanged(State.MIXED, Call.holds(0));
  }

  private static void root() {
    rootOfANewObject();
    rootOfAFullObject();
    rootOfOneValueAlone();
    rootBeyondTheLast();
    rootInTheOrderOf64FramesEach();
    rootInTheOrderOfAFullTallObject();
    rootWithoutFramesThatWent();
    rootTellsEqualValuesEach();
    rootBelow0();
    rootChangesNothing();
  }

  private static void rootOfANewObject() {
    due("new: root(0)", 0, State.NEW.run().root(0));
    due("new: root(1)", 0, State.NEW.run().root(1));
    due("new: root(48)", 0, State.NEW.run().root(48));
    due("new: root(largest int)", 0, State.NEW.run().root(Integer.MAX_VALUE));
  }

  private static void rootOfAFullObject() {
    Run x = State.FULL.run();
    for (int k = 0; k < 48; k++) {
      due("full: root(" + k + ")", 1000000 - k, x.root(k));
    }
  }

  private static void rootOfOneValueAlone() {
    for (int at : new int[] {0, 7, 8, 23}) {
      for (int m = 0; m < 4; m++) {
        Run x = new Run();
        x.put(m, at, 1);
        due("one value: root(0)", 1, x.root(0));
        due("one value: root(1)", 0, x.root(1));
      }
    }
  }

  private static void rootBeyondTheLast() {
    Run x = State.FULL.run();
    due("full: the last", 1000000 - 47, x.root(47));
    due("full: one beyond the last", 0, x.root(48));
    due("full: two beyond the last", 0, x.root(49));
    due("full: one before the largest int", 0, x.root(Integer.MAX_VALUE - 1));
    due("full: the largest int", 0, x.root(Integer.MAX_VALUE));
  }

  /** Each mutator's lowest frame, its upper frame, then the next mutator's, then the globals. */
  private static void rootInTheOrderOf64FramesEach() {
    Run x = State.TALL_ALL.run();
    for (int m = 0; m < 4; m++) {
      due("lowest frame of " + m + ", first slot", 10 + m, x.root(4 * m));
      due("lowest frame of " + m + ", last slot", 1000000 - 10 - m, x.root(4 * m + 1));
      due("upper frame of " + m + ", first slot", 20 + m, x.root(4 * m + 2));
      due("upper frame of " + m + ", last slot", 1000000 - 20 - m, x.root(4 * m + 3));
    }
    due("first global", 28, x.root(16));
    due("last global", 29, x.root(17));
    due("one beyond the last", 0, x.root(18));
  }

  private static void rootInTheOrderOfAFullTallObject() {
    Run x = State.TALL_FULL.run();
    due("first slot of mutator 1", 1000000 - 8, x.root(8));
    due("last slot of its lowest frame", 1000000 - 15, x.root(15));
    due("first slot of its second frame", 15, x.root(16));
    due("last slot of its second frame", 8, x.root(23));
    due("first slot of its third frame", 23, x.root(24));
    due("last slot of its upper frame", 8 * 27, x.root(8 + 28 * 8 - 1));
    due("first slot of mutator 2", 1000000 - 16, x.root(8 + 28 * 8));
    due("last global", 1000000 - 47, x.root(47 + 27 * 8));
    due("one beyond the last", 0, x.root(48 + 27 * 8));
  }

  private static void rootWithoutFramesThatWent() {
    Run x = State.TALL_FULL.run();
    x.cut(1, 1);
    for (int k = 0; k < 48; k++) {
      due("cut: root(" + k + ")", 1000000 - k, x.root(k));
    }
    due("cut: one beyond the last", 0, x.root(48));
    due("frames went: none", 0, State.GONE.run().root(0));
  }

  private static void rootTellsEqualValuesEach() {
    Run x = State.SAME.run();
    due("same: the first", 7, x.root(0));
    due("same: the last", 7, x.root(47));
    due("same: one beyond the last", 0, x.root(48));
  }

  private static void rootBelow0() {
    for (int wrong : new int[] {-1, -2, Integer.MIN_VALUE}) {
      checks.dueRefused(Checks.ARGUMENT, State.NEW, Call.root(wrong));
      checks.dueRefused(Checks.ARGUMENT, State.FULL, Call.root(wrong));
      checks.dueRefused(Checks.ARGUMENT, State.TALL_ALL, Call.root(wrong));
    }
  }

  private static void rootChangesNothing() {
    checks.dueUnchanged(State.FULL, Call.root(0));
    checks.dueUnchanged(State.FULL, Call.root(48));
  }

  private static void turn() {
    turnInANewObject();
    turnOfTheSmallestAndLargestValue();
    turnOfOneThatIsEverywhere();
    turnOfOneThatIsNowhere();
    turnIntoItself();
    turnIntoOneThatIsThere();
    turnInEachPlaceOfAFullObject();
    turnInLowestAndUpperFramesOf64();
    turnNotInFramesThatWent();
  }

  private static void turnInANewObject() {
    due("new: turn(1, 0)", 0, State.NEW.run().turn(1, 0));
    due("new: turn(1, 1000000)", 0, State.NEW.run().turn(1, 1000000));
    due("new: turn(1000000, 1)", 0, State.NEW.run().turn(1000000, 1));
    checks.dueUnchanged(State.NEW, Call.turn(1, 1000000));
  }

  private static void turnOfTheSmallestAndLargestValue() {
    Run x = new Run();
    x.put(0, 0, 1);
    due("turn(1, 1000000)", 1, x.turn(1, 1000000));
    due("turn: the largest is there", 1000000, x.get(0, 0));
    due("turn(1000000, 1)", 1, x.turn(1000000, 1));
    due("turn: the smallest is there", 1, x.get(0, 0));
    due("turn(1, 0)", 1, x.turn(1, 0));
    due("turn: nothing is there", 48, x.holds(0));
    due("turn: 0 is not turned back", 0, x.turn(1, 5));
  }

  private static void turnOfOneThatIsEverywhere() {
    Run x = State.SAME.run();
    due("same: all into the largest", 48, x.turn(7, 1000000));
    due("same: all are it", 48, x.holds(1000000));
    due("same: all into nothing", 48, x.turn(1000000, 0));
    due("same: all are nothing", 48, x.holds(0));
  }

  private static void turnOfOneThatIsNowhere() {
    due("full: turn(1, 2)", 0, State.FULL.run().turn(1, 2));
    checks.dueUnchanged(State.FULL, Call.turn(1, 2));
    checks.dueUnchanged(State.FULL, Call.turn(1, 0));
    checks.dueUnchanged(State.SAME, Call.turn(8, 7));
  }

  private static void turnIntoItself() {
    due("same: turn(7, 7)", 48, State.SAME.run().turn(7, 7));
    checks.dueUnchanged(State.SAME, Call.turn(7, 7));
    due("full: turn(1000000, 1000000)", 1, State.FULL.run().turn(1000000, 1000000));
    checks.dueUnchanged(State.FULL, Call.turn(1000000, 1000000));
  }

  /** The answer tells how many v there were, not how many w there are. */
  private static void turnIntoOneThatIsThere() {
    Run x = State.MIXED.run();
    due("mixed: 20 into 30", 2, x.turn(20, 30));
    due("mixed: 30 five times", 5, x.holds(30));
    due("mixed: no 20", 0, x.holds(20));
    due("mixed: all 30 into 10", 5, x.turn(30, 10));
    due("mixed: 10 six times", 6, x.holds(10));
  }

  private static void turnInEachPlaceOfAFullObject() {
    for (int place = 0; place < 48; place++) {
      Run x = State.FULL.run();
      due("full: one", 1, x.turn(1000000 - place, 3));
      for (int k = 0; k < 48; k++) {
        int want = k == place ? 3 : 1000000 - k;
        due("full: turn in the " + place + "-th: root(" + k + ")", want, x.root(k));
      }
    }
  }

  private static void turnInLowestAndUpperFramesOf64() {
    Run x = State.TALL_ALL.run();
    for (int m = 0; m < 4; m++) {
      due("64 frames: lowest", 1, x.turn(10 + m, 5));
      due("64 frames: upper", 1, x.turn(1000000 - 20 - m, 5));
      due("64 frames: lowest frame's first slot", 5, x.peek(m, 0, 0));
      due("64 frames: upper frame's last slot", 5, x.peek(m, 63, 7));
    }
    due("64 frames: last global", 1, x.turn(29, 5));
    due("64 frames: all of them", 9, x.turn(5, 0));
    due("64 frames: others stay", 9, x.count(1));
  }

  private static void turnNotInFramesThatWent() {
    Run x = State.GONE.run();
    for (int v = 93; v <= 124; v++) {
      due("frames went: turn(" + v + ", 1)", 0, x.turn(v, 1));
    }
    due("frames went: all are 0", 48, x.holds(0));
  }

  private static void turnRefused() {
    turnOf0();
    turnOfNoValue();
    turnIntoNoValue();
    turnOfNoValueIntoNoValue();
    turnOfOneThatIsNowhereIntoNoValue();
  }

  private static void turnOf0() {
    for (int w : new int[] {0, 1, 7, 1000000}) {
      checks.dueRefused(Checks.ARGUMENT, State.NEW, Call.turn(0, w));
      checks.dueRefused(Checks.ARGUMENT, State.SAME, Call.turn(0, w));
      checks.dueRefused(Checks.ARGUMENT, State.MIXED, Call.turn(0, w));
    }
    for (int w : Wrong.VALUES) {
      checks.dueRefused(Checks.ARGUMENT, State.MIXED, Call.turn(0, w));
    }
  }

  private static void turnOfNoValue() {
    for (int wrong : Wrong.VALUES) {
      checks.dueRefused(Checks.ARGUMENT, State.NEW, Call.turn(wrong, 0));
      checks.dueRefused(Checks.ARGUMENT, State.MIXED, Call.turn(wrong, 1));
      checks.dueRefused(Checks.ARGUMENT, State.FULL, Call.turn(wrong, 1000000));
    }
  }

  private static void turnIntoNoValue() {
    for (int wrong : Wrong.VALUES) {
      checks.dueRefused(Checks.ARGUMENT, State.SAME, Call.turn(7, wrong));
      checks.dueRefused(Checks.ARGUMENT, State.MIXED, Call.turn(30, wrong));
      checks.dueRefused(Checks.ARGUMENT, State.FULL, Call.turn(1000000, wrong));
    }
  }

  private static void turnOfNoValueIntoNoValue() {
    for (int v : Wrong.VALUES) {
      for (int w : Wrong.VALUES) {
        checks.dueRefused(Checks.ARGUMENT, State.MIXED, Call.turn(v, w));
      }
    }
  }

  private static void turnOfOneThatIsNowhereIntoNoValue() {
    for (int wrong : Wrong.VALUES) {
      checks.dueRefused(Checks.ARGUMENT, State.NEW, Call.turn(1, wrong));
      checks.dueRefused(Checks.ARGUMENT, State.FULL, Call.turn(1, wrong));
    }
  }

  private static void renew() {
    renewOfANewObject();
    renewOfTheSmallestAndLargestValue();
    renewOfOneThatIsEverywhere();
    renewOfAFullObject();
    renewOfAFullTallObject();
    renewOf64FramesEach();
    renewOfNamesThatAreNewAlreadyChangesNothing();
    renewOfTheNewNamesInAnotherOrder();
    renewTwiceIsAsOnce();
    renewGoesByFirstPlaces();
    renewWithoutFramesThatWent();
  }

  private static void renewOfANewObject() {
    due("new: renew", 0, State.NEW.run().renew());
    checks.dueUnchanged(State.NEW, Call.renew());
    due("frames went: renew", 0, State.GONE.run().renew());
    checks.dueUnchanged(State.GONE, Call.renew());
  }

  private static void renewOfTheSmallestAndLargestValue() {
    for (int v : new int[] {1, 2, 1000000}) {
      for (int at : new int[] {0, 7, 8, 23}) {
        Run x = new Run();
        x.put(3, at, v);
        due("renew: " + v + " alone", 1, x.renew());
        due("renew: it is 1", 1, x.get(3, at));
        due("renew: the others are 0", 47, x.holds(0));
      }
    }
  }

  private static void renewOfOneThatIsEverywhere() {
    Run x = State.SAME.run();
    due("same: renew", 1, x.renew());
    due("same: all are 1", 48, x.holds(1));
  }

  private static void renewOfAFullObject() {
    Run x = State.FULL.run();
    due("full: renew", 48, x.renew());
    for (int k = 0; k < 48; k++) {
      due("full: root(" + k + ")", k + 1, x.root(k));
    }
  }

  /** Its old values are partly new names of others: 8 .. 223 and 1000000 - 47 .. 1000000. */
  private static void renewOfAFullTallObject() {
    Run x = State.TALL_FULL.run();
    due("28 frames, full: renew", 264, x.renew());
    for (int k = 0; k < 264; k += 2) {
      due("28 frames, full: root(" + k + ")", k + 1, x.root(k));
    }
    due("28 frames, full: the last", 264, x.root(263));
  }

  private static void renewOf64FramesEach() {
    Run x = State.TALL_ALL.run();
    due("64 frames: renew", 18, x.renew());
    for (int k = 0; k < 18; k++) {
      due("64 frames: root(" + k + ")", k + 1, x.root(k));
    }
    due("64 frames: 0 stays 0", 2064 - 18, x.holds(0));
    due("64 frames: first slot", 1, x.peek(0, 0, 0));
    due("64 frames: last slot", 16, x.peek(3, 63, 7));
    due("64 frames: last global", 18, x.get(0, 23));
  }

  private static Run withSlots(int... values) {
    Run x = new Run();
    for (int i = 0; i < values.length; i++) {
      x.put(i / 8, i % 8, values[i]);
    }
    return x;
  }

  private static void dueSlots(String what, Run x, int... values) {
    for (int i = 0; i < values.length; i++) {
      due(what + ": slot " + i, values[i], x.get(i / 8, i % 8));
    }
  }

  private static void renewOfNamesThatAreNewAlreadyChangesNothing() {
    Run x = withSlots(1, 2, 1, 3, 0, 2, 4, 1, 5);
    due("named already: renew", 5, x.renew());
    dueSlots("named already", x, 1, 2, 1, 3, 0, 2, 4, 1, 5);
  }

  private static void renewOfTheNewNamesInAnotherOrder() {
    Run two = withSlots(2, 1);
    due("2, 1: renew", 2, two.renew());
    dueSlots("2, 1", two, 1, 2);
    Run round = withSlots(3, 1, 2, 3, 1, 2);
    due("3, 1, 2: renew", 3, round.renew());
    dueSlots("3, 1, 2", round, 1, 2, 3, 1, 2, 3);
    Run down = withSlots(9, 8, 7, 6, 5, 4, 3, 2, 1, 9, 1);
    due("9 .. 1: renew", 9, down.renew());
    dueSlots("9 .. 1", down, 1, 2, 3, 4, 5, 6, 7, 8, 9, 1, 9);
  }

  private static void renewTwiceIsAsOnce() {
    Run x = State.MIXED.run();
    due("mixed: renew", 4, x.renew());
    due("mixed: renew again", 4, x.renew());
    int[] want = {1, 2, 3, 2, 1, 4, 1, 0};
    for (int k = 0; k < want.length; k++) {
      due("mixed: root(" + k + ")", want[k], x.root(k));
    }
  }

  /** Put in another order than the document's; the places count, not the calls. */
  private static void renewGoesByFirstPlaces() {
    Run x = new Run();
    x.put(0, 23, 60);
    x.put(3, 0, 50);
    x.put(0, 8, 60);
    x.put(1, 7, 40);
    x.call(1);
    x.put(1, 0, 50);
    x.put(0, 7, 70);
    due("first places: renew", 4, x.renew());
    due("first places: slot 7 of mutator 0", 1, x.get(0, 7));
    due("first places: lower frame of mutator 1", 2, x.peek(1, 0, 7));
    due("first places: upper frame of mutator 1", 3, x.get(1, 0));
    due("first places: mutator 3 has the same", 3, x.get(3, 0));
    due("first places: first global", 4, x.get(0, 8));
    due("first places: last global", 4, x.get(0, 23));
  }

  private static void renewWithoutFramesThatWent() {
    Run x = State.TALL_FULL.run();
    x.cut(1, 1);
    due("cut: renew", 48, x.renew());
    due("cut: the last", 48, x.get(0, 23));
    x.call(1);
    due("cut: a new frame is 0", 8, x.holds(0));
  }
}
