import java.util.List;

/** Promises 1 to 4 at their bounds: a new object, call, leave, cut. */
public final class FrameBoundsTest {
  private static final List<State> ONE_FRAME = List.of(State.NEW, State.FULL, State.GONE);

  private static final Checks checks = new Checks();

  public static void main(String[] args) {
    newObject();
    call();
    leave();
    leaveRefused();
    cut();
    cutRefused();
    checks.end();
  }

  private static void due(String what, int want, int got) {
    checks.due(what, want, got);
  }

  private static void newObject() {
    newMutatorsHaveOneFrame();
    newMutatorsHaveNoSecondFrame();
    newValuesAreAll0();
    newPlacesAreAll0();
    newCountsAreOfOneFrameEach();
    newOneAfterAFullOneIsNew();
  }

  private static void newMutatorsHaveOneFrame() {
    for (int m = 0; m < 4; m++) {
      due("new: the only frame's first slot", 0, new Run().peek(m, 0, 0));
      due("new: the only frame's last slot", 0, new Run().peek(m, 0, 7));
      due("new: nothing to cut", 0, new Run().cut(m, 1));
      due("new: the first call makes two", 2, new Run().call(m));
    }
  }

  private static void newMutatorsHaveNoSecondFrame() {
    for (int m = 0; m < 4; m++) {
      checks.dueRefused(Checks.NO_SUCH, State.NEW, Call.peek(m, 1, 0));
      checks.dueRefused(Checks.NO_SUCH, State.NEW, Call.cut(m, 2));
      checks.dueRefused(Checks.STATE, State.NEW, Call.leave(m, 0));
    }
  }

  private static void newValuesAreAll0() {
    Run x = new Run();
    due("new: 4 * 8 slots and 16 globals are 0", 48, x.holds(0));
    due("new: none is 1", 0, x.holds(1));
    due("new: none is the largest", 0, x.holds(1000000));
    due("new: no root", 0, x.root(0));
    due("new: none to renew", 0, x.renew());
  }

  private static void newPlacesAreAll0() {
    Run x = new Run();
    for (int m = 0; m < 4; m++) {
      for (int at = 0; at < 24; at++) {
        due("new: get(" + m + ", " + at + ")", 0, x.get(m, at));
      }
    }
  }

  private static void newCountsAreOfOneFrameEach() {
    int[] want = {4, 0, 1, 0, 0};
    for (int what = 0; what < 5; what++) {
      due("new: count(" + what + ")", want[what], new Run().count(what));
    }
  }

  private static void newOneAfterAFullOneIsNew() {
    String first = Reading.of(Run::new);
    State.FULL.run();
    State.TALL_ALL.run();
    checks.due("new: after others", first, Reading.of(Run::new));
  }

  private static void call() {
    callOnEachMutator();
    callOnNoMutator();
    callUpTo64();
    callBeyond64();
    callBeyond64OfAll();
    callOnNoMutatorWhenAllHave64();
    callAfterARefusedOne();
    callMakesAllSlots0OverAFullFrame();
    callMakesAllSlots0WhereACutFrameWas();
    callMakesAllSlots0WhereALeftFrameWas();
    callMakesAllSlots0InThe64th();
    callChangesNothingElse();
  }

  private static void callOnEachMutator() {
    for (int m = 0; m < 4; m++) {
      Run x = new Run();
      due("call: second frame of " + m, 2, x.call(m));
      due("call: one more in all", 5, x.count(0));
      due("call: third frame of " + m, 3, x.call(m));
    }
  }

  private static void callOnNoMutator() {
    for (State state : ONE_FRAME) {
      for (int wrong : Wrong.MUTATORS) {
        checks.dueRefused(Checks.NO_SUCH, state, Call.call(wrong));
      }
    }
  }

  private static void callUpTo64() {
    for (int m = 0; m < 4; m++) {
      Run x = new Run();
      for (int frames = 2; frames <= 64; frames++) {
        due("call: frames of " + m, frames, x.call(m));
      }
      due("call: 63 more in all", 67, x.count(0));
    }
  }

  private static void callBeyond64() {
    for (int m = 0; m < 4; m++) {
      checks.dueRefused(Checks.STATE, State.tall(m), Call.call(m));
    }
  }

  private static void callBeyond64OfAll() {
    for (int m = 0; m < 4; m++) {
      checks.dueRefused(Checks.STATE, State.TALL_ALL, Call.call(m));
    }
  }

  private static void callOnNoMutatorWhenAllHave64() {
    for (int wrong : Wrong.MUTATORS) {
      checks.dueRefused(Checks.NO_SUCH, State.TALL_ALL, Call.call(wrong));
    }
  }

  private static void callAfterARefusedOne() {
    for (int m = 0; m < 4; m++) {
      Run x = State.tall(m).run();
      checks.dueThrows(Checks.STATE, x, Call.call(m));
      due("call: another mutator may", 2, x.call((m + 1) % 4));
      due("call: after the refusal one leaves", 63, x.leave(m, 0));
      due("call: then there is room", 64, x.call(m));
      checks.dueThrows(Checks.STATE, x, Call.call(m));
      due("call: all but one go", 63, x.cut(m, 1));
      due("call: then there is much room", 2, x.call(m));
    }
  }

  private static void dueUpperFrameOf0(String what, Run x, int mutator) {
    for (int slot = 0; slot < 8; slot++) {
      due(what + ": slot " + slot, 0, x.get(mutator, slot));
    }
  }

  private static void callMakesAllSlots0OverAFullFrame() {
    for (int m = 0; m < 4; m++) {
      Run x = State.FULL.run();
      x.call(m);
      dueUpperFrameOf0("call over a full frame", x, m);
    }
  }

  private static Run withFullUpperFrame(int mutator, int frames) {
    Run x = State.FULL.run();
    State.grow(x, mutator, frames);
    for (int slot = 0; slot < 8; slot++) {
      x.put(mutator, slot, 50 + slot);
    }
    return x;
  }

  private static void callMakesAllSlots0WhereACutFrameWas() {
    for (int m = 0; m < 4; m++) {
      Run x = withFullUpperFrame(m, 3);
      x.cut(m, 2);
      due("call: the third again", 3, x.call(m));
      dueUpperFrameOf0("call where a cut frame was", x, m);
    }
  }

  private static void callMakesAllSlots0WhereALeftFrameWas() {
    for (int m = 0; m < 4; m++) {
      Run x = withFullUpperFrame(m, 3);
      x.leave(m, 7);
      due("call: the third again", 3, x.call(m));
      dueUpperFrameOf0("call where a left frame was", x, m);
    }
  }

  private static void callMakesAllSlots0InThe64th() {
    for (int m = 0; m < 4; m++) {
      Run x = withFullUpperFrame(m, 63);
      due("call: the 64th", 64, x.call(m));
      dueUpperFrameOf0("call of the 64th", x, m);
    }
  }

  private static void callChangesNothingElse() {
    for (int m = 0; m < 4; m++) {
      Run x = State.FULL.run();
      x.call(m);
      for (int k = 0; k < 48; k++) {
        due("call(" + m + "): value " + k + " stays", 1000000 - k, x.root(k));
      }
      due("call(" + m + "): eight more are 0", 8, x.holds(0));
    }
  }

  private static void leave() {
    leaveOfTwo();
    leaveOf64();
    leaveDownToOne();
    leaveTakesEachSlot();
    leaveTakes0();
    leaveTakesTheLargestValue();
    leaveKeepsTheOtherSlotsBelow();
    leaveChangesNoOtherMutatorOrGlobal();
    leaveIsNotCountedAsCall();
  }

  private static void leaveOfTwo() {
    for (int m = 0; m < 4; m++) {
      Run x = new Run();
      x.call(m);
      due("leave of two", 1, x.leave(m, 0));
      due("leave: one each", 4, x.count(0));
    }
  }

  private static void leaveOf64() {
    for (int m = 0; m < 4; m++) {
      Run x = State.tall(m).run();
      due("leave of 64", 63, x.leave(m, 7));
      due("leave: slot 7 in the 63rd frame's slot 0", 1000000 - 20 - m, x.peek(m, 62, 0));
      checks.dueThrows(Checks.NO_SUCH, x, Call.peek(m, 63, 0));
    }
  }

  private static void leaveDownToOne() {
    for (int m = 0; m < 4; m++) {
      Run x = State.tall(m).run();
      for (int left = 63; left >= 1; left--) {
        due("leave: so many are left", left, x.leave(m, 0));
      }
      due("leave: slot 0 went all the way down", 20 + m, x.peek(m, 0, 0));
      checks.dueThrows(Checks.STATE, x, Call.leave(m, 0));
      due("leave: it is still there", 20 + m, x.get(m, 0));
    }
  }

  private static void leaveTakesEachSlot() {
    for (int m = 0; m < 4; m++) {
      for (int slot = 0; slot < 8; slot++) {
        Run x = withFullUpperFrame(m, 2);
        due("leave: one is left", 1, x.leave(m, slot));
        due("leave: slot " + slot + " in slot 0", 50 + slot, x.get(m, 0));
      }
    }
  }

  private static void leaveTakes0() {
    Run x = State.FULL.run();
    x.call(3);
    x.leave(3, 7);
    due("leave: 0 in slot 0", 0, x.get(3, 0));
    due("leave: one is 0", 1, x.holds(0));
  }

  private static void leaveTakesTheLargestValue() {
    Run x = new Run();
    x.call(0);
    x.put(0, 7, 1000000);
    x.leave(0, 7);
    due("leave: 1000000 in slot 0", 1000000, x.get(0, 0));
    due("leave: 1000000 is there once", 1, x.holds(1000000));
  }

  private static void leaveKeepsTheOtherSlotsBelow() {
    for (int m = 0; m < 4; m++) {
      Run x = withFullUpperFrame(m, 2);
      x.leave(m, 3);
      for (int slot = 1; slot < 8; slot++) {
        due("leave: slot " + slot + " below stays", 1000000 - 8 * m - slot, x.get(m, slot));
      }
    }
  }

  private static void leaveChangesNoOtherMutatorOrGlobal() {
    for (int m = 0; m < 4; m++) {
      Run x = withFullUpperFrame(m, 2);
      x.leave(m, 3);
      for (int k = 0; k < 48; k++) {
        int want = k == 8 * m ? 53 : 1000000 - k;
        due("leave(" + m + ", 3): value " + k, want, x.root(k));
      }
      due("leave: no more than these", 0, x.root(48));
    }
  }

  private static void leaveIsNotCountedAsCall() {
    Run x = new Run();
    x.call(2);
    x.leave(2, 0);
    due("leave: one call as before", 1, x.count(3));
  }

  private static void leaveRefused() {
    leaveOfTheOnlyFrame();
    leaveOfNoMutator();
    leaveOfNoSlot();
    leaveOfNoSlotOfTheOnlyFrame();
    leaveOfNoMutatorAndNoSlot();
  }

  private static void leaveOfTheOnlyFrame() {
    for (State state : ONE_FRAME) {
      for (int m = 0; m < 4; m++) {
        checks.dueRefused(Checks.STATE, state, Call.leave(m, 0));
        checks.dueRefused(Checks.STATE, state, Call.leave(m, 7));
      }
    }
  }

  private static void leaveOfNoMutator() {
    for (int wrong : Wrong.MUTATORS) {
      checks.dueRefused(Checks.NO_SUCH, State.NEW, Call.leave(wrong, 0));
      checks.dueRefused(Checks.NO_SUCH, State.TALL_ALL, Call.leave(wrong, 7));
    }
  }

  private static void leaveOfNoSlot() {
    for (int wrong : Wrong.SLOTS) {
      checks.dueRefused(Checks.NO_SUCH, State.TALL_ALL, Call.leave(0, wrong));
      checks.dueRefused(Checks.NO_SUCH, State.TALL_FULL, Call.leave(1, wrong));
    }
  }

  private static void leaveOfNoSlotOfTheOnlyFrame() {
    for (State state : ONE_FRAME) {
      for (int wrong : Wrong.SLOTS) {
        checks.dueRefused(Checks.NO_SUCH, state, Call.leave(0, wrong));
        checks.dueRefused(Checks.NO_SUCH, state, Call.leave(3, wrong));
      }
    }
  }

  private static void leaveOfNoMutatorAndNoSlot() {
    for (int mutator : Wrong.MUTATORS) {
      for (int slot : Wrong.SLOTS) {
        checks.dueRefused(Checks.NO_SUCH, State.MIXED, Call.leave(mutator, slot));
      }
    }
  }

  private static void cut() {
    cutOfOneToOne();
    cutOf64To64();
    cutOf64To63();
    cutOf64To1();
    cutOfTwoTo1();
    cutChangesNothingElse();
    cutToAllThereAreChangesNothing();
    cutIsNotCountedAsCall();
  }

  private static void cutOfOneToOne() {
    for (State state : ONE_FRAME) {
      for (int m = 0; m < 4; m++) {
        due("cut of one to one", 0, state.run().cut(m, 1));
        checks.dueUnchanged(state, Call.cut(m, 1));
      }
    }
  }

  private static void cutOf64To64() {
    for (int m = 0; m < 4; m++) {
      Run x = State.tall(m).run();
      due("cut of 64 to 64", 0, x.cut(m, 64));
      due("cut: all are left", 67, x.count(0));
      due("cut: the upper one too", 20 + m, x.peek(m, 63, 0));
    }
  }

  private static void cutOf64To63() {
    for (int m = 0; m < 4; m++) {
      Run x = State.tall(m).run();
      due("cut of 64 to 63", 1, x.cut(m, 63));
      due("cut: 63 are left", 66, x.count(0));
      due("cut: the 63rd frame's slot 0 stays", 0, x.get(m, 0));
      checks.dueThrows(Checks.NO_SUCH, x, Call.peek(m, 63, 0));
    }
  }

  private static void cutOf64To1() {
    for (int m = 0; m < 4; m++) {
      Run x = State.tall(m).run();
      due("cut of 64 to 1", 63, x.cut(m, 1));
      due("cut: one each", 4, x.count(0));
      due("cut: the lowest frame's slot 0 stays", 10 + m, x.get(m, 0));
      due("cut: the lowest frame's slot 7 stays", 1000000 - 10 - m, x.get(m, 7));
      checks.dueThrows(Checks.NO_SUCH, x, Call.peek(m, 1, 0));
    }
  }

  private static void cutOfTwoTo1() {
    for (int m = 0; m < 4; m++) {
      Run x = new Run();
      x.call(m);
      due("cut of two to one", 1, x.cut(m, 1));
      due("cut: the second comes again", 2, x.call(m));
    }
  }

  private static void cutChangesNothingElse() {
    for (int m = 0; m < 4; m++) {
      Run x = withFullUpperFrame(m, 5);
      due("cut of five to one", 4, x.cut(m, 1));
      for (int k = 0; k < 48; k++) {
        due("cut(" + m + ", 1): value " + k + " stays", 1000000 - k, x.root(k));
      }
      due("cut: no more than these", 48, x.count(1));
    }
  }

  private static void cutToAllThereAreChangesNothing() {
    checks.dueUnchanged(State.TALL_ALL, Call.cut(0, 64));
    checks.dueUnchanged(State.TALL_ALL, Call.cut(3, 64));
    checks.dueUnchanged(State.TALL_FULL, Call.cut(1, 28));
  }

  private static void cutIsNotCountedAsCall() {
    Run x = State.tall(0).run();
    x.cut(0, 1);
    due("cut: 63 calls as before", 63, x.count(3));
  }

  private static void cutRefused() {
    cutOfNoMutator();
    cutOfOneBeyondIts();
    cutOf64BeyondIts();
    cutBetween();
    cutOfNoMutatorAndNoFrames();
  }

  private static void cutOfNoMutator() {
    for (int wrong : Wrong.MUTATORS) {
      checks.dueRefused(Checks.NO_SUCH, State.NEW, Call.cut(wrong, 1));
      checks.dueRefused(Checks.NO_SUCH, State.TALL_ALL, Call.cut(wrong, 64));
    }
  }

  private static void cutOfOneBeyondIts() {
    for (State state : ONE_FRAME) {
      for (int wrong : Wrong.cutsBeyond(1)) {
        checks.dueRefused(Checks.NO_SUCH, state, Call.cut(0, wrong));
        checks.dueRefused(Checks.NO_SUCH, state, Call.cut(3, wrong));
      }
    }
  }

  private static void cutOf64BeyondIts() {
    for (int wrong : Wrong.cutsBeyond(64)) {
      checks.dueRefused(Checks.NO_SUCH, State.TALL_ALL, Call.cut(0, wrong));
      checks.dueRefused(Checks.NO_SUCH, State.TALL_ALL, Call.cut(3, wrong));
    }
  }

  /** As many as the others have, but more than this one has. */
  private static void cutBetween() {
    checks.dueRefused(Checks.NO_SUCH, State.tall(0), Call.cut(1, 64));
    checks.dueRefused(Checks.NO_SUCH, State.tall(3), Call.cut(2, 2));
    checks.dueRefused(Checks.NO_SUCH, State.TALL_FULL, Call.cut(1, 29));
  }

  private static void cutOfNoMutatorAndNoFrames() {
    for (int mutator : Wrong.MUTATORS) {
      for (int frames : Wrong.cutsBeyond(2)) {
        checks.dueRefused(Checks.NO_SUCH, State.MIXED, Call.cut(mutator, frames));
      }
    }
  }
}
