/** Promise 12 at its bounds, and the last of the 512 calls that an object is used for. */
public final class CountBoundsTest {
  private static final int FRAMES = 0;
  private static final int NOT_0 = 1;
  private static final int MOST_FRAMES = 2;
  private static final int CALLS = 3;
  private static final int DIFFERENT = 4;

  private static final Checks checks = new Checks();

  public static void main(String[] args) {
    countOfEachState();
    countOfNothing();
    countChangesNothing();
    countOfMostFrames();
    countOfCalls();
    countOfNot0AndDifferent();
    last();
    checks.end();
  }

  private static void due(String what, int want, int got) {
    checks.due(what, want, got);
  }

  private static void dueCounts(State state, int... want) {
    Run x = state.run();
    for (int what = 0; what < 5; what++) {
      due(state + ": count(" + what + ")", want[what], x.count(what));
    }
  }

  private static void countOfEachState() {
    dueCounts(State.NEW, 4, 0, 1, 0, 0);
    dueCounts(State.FULL, 4, 48, 1, 0, 48);
    dueCounts(State.SAME, 4, 48, 1, 0, 1);
    dueCounts(State.MIXED, 6, 7, 2, 2, 4);
    dueCounts(State.GONE, 4, 0, 1, 12, 0);
    dueCounts(State.TALL_ALL, 256, 18, 64, 252, 18);
    dueCounts(State.TALL_FULL, 31, 264, 28, 27, 264);
    for (int m = 0; m < 4; m++) {
      dueCounts(State.tall(m), 67, 12, 64, 63, 12);
    }
  }

  private static void countOfNothing() {
    for (int wrong : Wrong.COUNTS) {
      checks.dueRefused(Checks.ARGUMENT, State.NEW, Call.count(wrong));
      checks.dueRefused(Checks.ARGUMENT, State.FULL, Call.count(wrong));
      checks.dueRefused(Checks.ARGUMENT, State.TALL_ALL, Call.count(wrong));
    }
  }

  private static void countChangesNothing() {
    for (int what = 0; what < 5; what++) {
      checks.dueUnchanged(State.MIXED, Call.count(what));
    }
  }

  private static void countOfMostFrames() {
    for (int m = 0; m < 4; m++) {
      Run x = new Run();
      State.grow(x, m, 3);
      due("most: mutator " + m + " alone", 3, x.count(MOST_FRAMES));
      State.grow(x, (m + 1) % 4, 2);
      due("most: the next has fewer", 3, x.count(MOST_FRAMES));
      State.grow(x, (m + 2) % 4, 3);
      due("most: another has as many", 3, x.count(MOST_FRAMES));
      State.grow(x, (m + 3) % 4, 4);
      due("most: another has more", 4, x.count(MOST_FRAMES));
      x.cut((m + 3) % 4, 1);
      due("most: it has them no more", 3, x.count(MOST_FRAMES));
    }
  }

  private static void countOfCalls() {
    callsThatThrowAreNotCounted();
    callsAreCountedWhenTheirFramesWent();
    noOtherMethodIsCounted();
  }

  private static void callsThatThrowAreNotCounted() {
    Run x = State.TALL_ALL.run();
    for (int m = 0; m < 4; m++) {
      checks.dueThrows(Checks.STATE, x, Call.call(m));
      due("calls: not the 65th", 252, x.count(CALLS));
    }
    for (int wrong : Wrong.MUTATORS) {
      checks.dueThrows(Checks.NO_SUCH, x, Call.call(wrong));
      due("calls: not of no mutator", 252, x.count(CALLS));
    }
    x.leave(0, 0);
    x.call(0);
    due("calls: the next good one", 253, x.count(CALLS));
  }

  private static void callsAreCountedWhenTheirFramesWent() {
    Run x = new Run();
    for (int time = 1; time <= 60; time++) {
      x.call(time % 4);
      due("calls: one more", 2 * time - 1, x.count(CALLS));
      x.leave(time % 4, 0);
      x.call(time % 4);
      x.cut(time % 4, 1);
      due("calls: cut and leave take none back", 2 * time, x.count(CALLS));
    }
    due("calls: the frames went", 4, x.count(FRAMES));
  }

  private static void noOtherMethodIsCounted() {
    Call[] others = {
      Call.leave(0, 0), Call.cut(2, 1), Call.get(0, 0), Call.put(0, 0, 5), Call.peek(0, 0, 0),
      Call.holds(0), Call.root(0), Call.turn(30, 31), Call.renew(), Call.count(CALLS)
    };
    for (Call other : others) {
      due("calls: two as before " + other, 2, State.MIXED.runWith(other).count(CALLS));
    }
  }

  private static void countOfNot0AndDifferent() {
    countGrowsAndShrinksPlaceByPlace();
    countOfTheSameAtBothEnds();
    countOfDifferentGoesWithTurnAndRenew();
    countOfWhatWentWithItsFrame();
  }

  private static void countGrowsAndShrinksPlaceByPlace() {
    Run x = new Run();
    for (int place = 0; place < 48; place++) {
      int at = place < 32 ? place % 8 : place - 24;
      x.put(place < 32 ? place / 8 : 0, at, 1000000 - place / 2);
      due("not 0: so far", place + 1, x.count(NOT_0));
      due("different: so far, two of each", place / 2 + 1, x.count(DIFFERENT));
    }
    for (int place = 47; place >= 0; place--) {
      int at = place < 32 ? place % 8 : place - 24;
      x.put(place < 32 ? place / 8 : 0, at, 0);
      due("not 0: still", place, x.count(NOT_0));
      due("different: still", (place + 1) / 2, x.count(DIFFERENT));
    }
  }

  private static void countOfTheSameAtBothEnds() {
    Run x = new Run();
    x.put(0, 0, 1000000);
    x.put(3, 23, 1000000);
    due("both ends: not 0", 2, x.count(NOT_0));
    due("both ends: different", 1, x.count(DIFFERENT));
    x.put(3, 23, 1);
    due("both ends: two different", 2, x.count(DIFFERENT));
  }

  private static void countOfDifferentGoesWithTurnAndRenew() {
    Run x = State.FULL.run();
    x.turn(1000000, 999999);
    due("turn: one different one fewer", 47, x.count(DIFFERENT));
    due("turn: as many not 0", 48, x.count(NOT_0));
    due("renew: as many different", 47, x.renew());
    due("renew: still", 47, x.count(DIFFERENT));
    x.turn(47, 0);
    due("turn into 0: one different one fewer", 46, x.count(DIFFERENT));
    due("turn into 0: one fewer not 0", 47, x.count(NOT_0));
  }

  private static void countOfWhatWentWithItsFrame() {
    Run x = State.TALL_FULL.run();
    due("cut: one frame went", 1, x.cut(1, 27));
    due("cut: eight fewer not 0", 256, x.count(NOT_0));
    due("cut: eight fewer different", 256, x.count(DIFFERENT));
    due("leave: another went", 26, x.leave(1, 7));
    due("leave: one of them took another's place", 248, x.count(NOT_0));
    due("leave: eight fewer different", 248, x.count(DIFFERENT));
  }

  /** The 512th call is the last one that the document promises something of. */
  private static void last() {
    lastAnswersAndReadings();
    lastAfterManyPutsOfAllValues();
    lastAfterAsManyGoodCallsAsThereCanBe();
  }

  private static Run worn() {
    Run x = State.MIXED.run();
    while (x.made() < Run.MOST_CALLS - 1) {
      x.put(3, 6, 1 + x.made() % 3);
    }
    return x;
  }

  private static void dueLast(String want, Call call) {
    Run x = worn();
    checks.due("512th: " + call, want, call.on(x));
    due("512th: it was the last", Run.MOST_CALLS, x.made());
  }

  private static void lastAnswersAndReadings() {
    dueLast("3", Call.call(0));
    dueLast("1", Call.leave(2, 3));
    dueLast("1", Call.cut(2, 1));
    dueLast("20", Call.get(0, 0));
    dueLast("30", Call.put(0, 23, 1000000));
    dueLast("20", Call.peek(2, 0, 7));
    dueLast("3", Call.holds(30));
    dueLast("30", Call.root(0));
    dueLast("3", Call.turn(30, 1));
    dueLast("5", Call.renew());
    dueLast("6", Call.count(FRAMES));
    dueLast("throws.NoSuchElementException", Call.call(4));
    dueLast("throws.IllegalStateException", Call.leave(1, 0));
    dueLast("throws.IllegalArgumentException", Call.put(0, 0, 1000001));
  }

  private static void lastAfterManyPutsOfAllValues() {
    Run x = new Run();
    for (int i = 1; i < Run.MOST_CALLS; i++) {
      due("puts: what it was", i == 1 ? 0 : 1000000 - i + 1, x.put(3, 23, 1000000 - i));
    }
    due("puts: the last one", 1000000 - 511, x.get(0, 23));
  }

  /** 252 calls, four cuts to one frame, and 252 more. */
  private static void lastAfterAsManyGoodCallsAsThereCanBe() {
    Run x = new Run();
    for (int m = 0; m < 4; m++) {
      State.grow(x, m, 64);
    }
    for (int m = 0; m < 4; m++) {
      due("calls: all but one frame go", 63, x.cut(m, 1));
    }
    for (int m = 0; m < 4; m++) {
      State.grow(x, m, 64);
    }
    due("calls: in all", 504, x.count(CALLS));
    due("calls: frames", 256, x.count(FRAMES));
    due("calls: all are 0", 2064, x.holds(0));
    checks.dueThrows(Checks.STATE, x, Call.call(3));
  }
}
