/** Each promise, by its number: ordinary inputs, the document's edges, wrong inputs. */
public final class PromisesTest {
  private static final Checks checks = new Checks();

  public static void main(String[] args) {
    promise1NewObject();
    promise2Call();
    promise2CallAtTheLimit();
    promise3Leave();
    promise3LeaveWrongly();
    promise4Cut();
    promise4CutWrongly();
    promise5Get();
    promise6Put();
    promise7Peek();
    promise8Holds();
    promise9Root();
    promise10Turn();
    promise10TurnAtTheEnds();
    promise10TurnWrongly();
    promise11Renew();
    promise11RenewDoesNotMixOldAndNew();
    promise11RenewForgetsFramesThatWent();
    promise12Count();
    promise12CountOfDifferentValues();
    promise12CountOfCalls();
    allFramesThatThereCanBe();
    objectsAreApart();
    checks.end();
  }

  private static void due(String what, int want, int got) {
    checks.due(what, want, got);
  }

  private static void promise1NewObject() {
    Run x = new Run();
    for (int mutator = 0; mutator < 4; mutator++) {
      for (int at = 0; at < 24; at++) {
        due("new: get", 0, x.get(mutator, at));
      }
      for (int slot = 0; slot < 8; slot++) {
        due("new: peek", 0, x.peek(mutator, 0, slot));
      }
      checks.dueThrows(Checks.NO_SUCH, x, Call.peek(mutator, 1, 0));
    }
    due("new: frames", 4, x.count(0));
    due("new: not 0", 0, x.count(1));
    due("new: most frames", 1, x.count(2));
    due("new: calls", 0, x.count(3));
    due("new: different", 0, x.count(4));
    due("new: holds(0)", 48, x.holds(0));
    due("new: root(0)", 0, x.root(0));
    due("new: renew", 0, x.renew());
  }

  private static void promise2Call() {
    Run x = State.MIXED.run();
    due("call: third frame", 3, x.call(0));
    due("call: others keep theirs", 2, x.call(1));
    for (int slot = 0; slot < 8; slot++) {
      due("call: new slots are 0", 0, x.get(0, slot));
    }
    due("call: lower frame", 30, x.peek(0, 0, 1));
    due("call: middle frame", 20, x.peek(0, 1, 0));
    due("call: the frame below", 10, x.peek(1, 0, 5));
    due("call: another mutator", 30, x.get(2, 3));
    due("call: globals stay", 40, x.get(0, 8));
    x.put(0, 4, 77);
    x.cut(0, 2);
    x.call(0);
    due("call: 0 where a frame went", 0, x.get(0, 4));
    for (int wrong : Wrong.MUTATORS) {
      checks.dueRefused(Checks.NO_SUCH, State.MIXED, Call.call(wrong));
    }
  }

  private static void promise2CallAtTheLimit() {
    Run x = new Run();
    for (int frames = 2; frames <= 64; frames++) {
      due("call: frames", frames, x.call(3));
    }
    x.put(3, 7, 9);
    for (int again = 0; again < 2; again++) {
      checks.dueThrows(Checks.STATE, x, Call.call(3));
      due("call: none came", 67, x.count(0));
      due("call: none counted", 63, x.count(3));
      due("call: the upper one stays", 9, x.get(3, 7));
    }
    due("call: others may", 2, x.call(2));
    x.cut(3, 63);
    due("call: again 64", 64, x.call(3));
    due("call: new values", 0, x.get(3, 7));
  }

  private static void promise3Leave() {
    for (int slot = 0; slot < 8; slot++) {
      Run x = new Run();
      for (int at = 0; at < 8; at++) {
        x.put(1, at, 100 + at);
        x.put(2, at, 300 + at);
      }
      x.put(1, 8, 50);
      x.call(1);
      x.call(1);
      for (int at = 0; at < 8; at++) {
        x.put(1, at, 200 + at);
      }
      due("leave: two left", 2, x.leave(1, slot));
      due("leave: in slot 0 below", 200 + slot, x.get(1, 0));
      due("leave: other slots below", 0, x.get(1, 1));
      due("leave: one left", 1, x.leave(1, 0));
      due("leave: slot 0 anew", 200 + slot, x.get(1, 0));
      for (int at = 1; at < 8; at++) {
        due("leave: others stay", 100 + at, x.get(1, at));
      }
      due("leave: next mutator", 300, x.get(2, 0));
      due("leave: globals", 50, x.get(0, 8));
      due("leave: gone values are not counted", 17, x.count(1));
    }
    Run y = new Run();
    y.put(0, 0, 6);
    y.call(0);
    y.leave(0, 5);
    due("leave: 0 is carried too", 0, y.get(0, 0));
  }

  private static void promise3LeaveWrongly() {
    for (int wrong : Wrong.MUTATORS) {
      checks.dueRefused(Checks.NO_SUCH, State.MIXED, Call.leave(wrong, 0));
    }
    for (int wrong : Wrong.SLOTS) {
      checks.dueRefused(Checks.NO_SUCH, State.MIXED, Call.leave(0, wrong));
      checks.dueRefused(Checks.NO_SUCH, State.MIXED, Call.leave(1, wrong));
    }
    checks.dueRefused(Checks.STATE, State.MIXED, Call.leave(1, 0));
    checks.dueRefused(Checks.STATE, State.MIXED, Call.leave(3, 7));
  }

  private static void promise4Cut() {
    Run x = new Run();
    for (int frame = 0; frame < 6; frame++) {
      x.put(1, 0, 10 + frame);
      x.put(1, 7, 20 + frame);
      x.call(1);
    }
    x.put(2, 0, 5);
    x.put(0, 23, 6);
    due("cut: none", 0, x.cut(1, 7));
    due("cut: three", 3, x.cut(1, 4));
    due("cut: slot 0 stays", 13, x.get(1, 0));
    due("cut: slot 7 stays", 23, x.get(1, 7));
    due("cut: lower ones stay", 12, x.peek(1, 2, 0));
    due("cut: next mutator", 5, x.get(2, 0));
    due("cut: globals", 6, x.get(3, 23));
    due("cut: values went", 10, x.count(1));
    due("cut: to one", 3, x.cut(1, 1));
    due("cut: the lowest", 10, x.get(1, 0));
    due("cut: of one", 0, x.cut(1, 1));
    due("cut: frames", 4, x.count(0));
    due("cut: calls stay", 6, x.count(3));
  }

  private static void promise4CutWrongly() {
    for (int wrong : Wrong.MUTATORS) {
      checks.dueRefused(Checks.NO_SUCH, State.MIXED, Call.cut(wrong, 1));
    }
    for (int wrong : Wrong.cutsBeyond(2)) {
      checks.dueRefused(Checks.NO_SUCH, State.MIXED, Call.cut(0, wrong));
    }
  }

  private static void promise5Get() {
    Run x = State.MIXED.run();
    due("get: upper slot", 20, x.get(0, 0));
    due("get: lower slots are no places", 0, x.get(0, 1));
    for (int mutator = 0; mutator < 4; mutator++) {
      due("get: first global", 40, x.get(mutator, 8));
      due("get: last global", 30, x.get(mutator, 23));
    }
    for (int wrong : Wrong.MUTATORS) {
      checks.dueRefused(Checks.NO_SUCH, State.MIXED, Call.get(wrong, 0));
    }
    for (int wrong : Wrong.PLACES) {
      checks.dueRefused(Checks.NO_SUCH, State.MIXED, Call.get(0, wrong));
    }
  }

  private static void promise6Put() {
    Run x = new Run();
    for (int mutator = 0; mutator < 4; mutator++) {
      for (int at = 0; at < 8; at++) {
        due("put: slot was 0", 0, x.put(mutator, at, 1 + mutator * 8 + at));
      }
    }
    for (int at = 8; at < 24; at++) {
      due("put: global was 0", 0, x.put(at % 4, at, 100 + at));
    }
    for (int k = 0; k < 32; k++) {
      due("put: slots in the order", k + 1, x.root(k));
    }
    for (int k = 32; k < 48; k++) {
      due("put: globals in the order", 100 + k - 24, x.root(k));
    }
    due("put: the greatest", 1, x.put(0, 0, 1000000));
    due("put: nothing", 1000000, x.put(0, 0, 0));
    due("put: is nothing", 0, x.put(0, 0, 4));
    due("put: shared global", 108, x.put(3, 8, 4));
    due("put: seen by all", 4, x.get(1, 8));
    putWrongly();
  }

  private static void putWrongly() {
    for (int wrong : Wrong.MUTATORS) {
      checks.dueRefused(Checks.NO_SUCH, State.MIXED, Call.put(wrong, 0, 1));
      checks.dueRefused(Checks.NO_SUCH, State.MIXED, Call.put(wrong, 8, -1));
    }
    for (int wrong : Wrong.PLACES) {
      checks.dueRefused(Checks.NO_SUCH, State.MIXED, Call.put(0, wrong, 1));
      checks.dueRefused(Checks.NO_SUCH, State.MIXED, Call.put(0, wrong, -1));
    }
    for (int wrong : Wrong.VALUES) {
      checks.dueRefused(Checks.ARGUMENT, State.MIXED, Call.put(0, 0, wrong));
      checks.dueRefused(Checks.ARGUMENT, State.MIXED, Call.put(0, 8, wrong));
    }
  }

  private static void promise7Peek() {
    Run x = State.MIXED.run();
    due("peek: lowest", 30, x.peek(0, 0, 1));
    due("peek: upper", 20, x.peek(0, 1, 0));
    due("peek: last slot", 20, x.peek(2, 0, 7));
    due("peek: as get", 30, x.peek(2, 1, 3));
    for (int wrong : Wrong.MUTATORS) {
      checks.dueRefused(Checks.NO_SUCH, State.MIXED, Call.peek(wrong, 0, 0));
    }
    for (int wrong : Wrong.framesBeyond(2)) {
      checks.dueRefused(Checks.NO_SUCH, State.MIXED, Call.peek(0, wrong, 0));
    }
    checks.dueRefused(Checks.NO_SUCH, State.MIXED, Call.peek(1, 1, 0));
    for (int wrong : Wrong.SLOTS) {
      checks.dueRefused(Checks.NO_SUCH, State.MIXED, Call.peek(0, 0, wrong));
    }
  }

  private static void promise8Holds() {
    Run x = State.MIXED.run();
    due("holds: lower, upper and global", 3, x.holds(30));
    due("holds: two", 2, x.holds(20));
    due("holds: none", 0, x.holds(31));
    due("holds: nothing", 64 - 7, x.holds(0));
    x.put(3, 7, 1000000);
    due("holds: the greatest", 1, x.holds(1000000));
    x.cut(2, 1);
    due("holds: a frame went", 2, x.holds(30));
    due("holds: 0 in fewer slots", 56 - 7, x.holds(0));
    for (int wrong : Wrong.VALUES) {
      checks.dueRefused(Checks.ARGUMENT, State.MIXED, Call.holds(wrong));
    }
  }

  private static void promise9Root() {
    Run x = State.MIXED.run();
    int[] inOrder = {30, 20, 10, 20, 30, 40, 30};
    for (int k = 0; k < inOrder.length; k++) {
      due("root(" + k + ")", inOrder[k], x.root(k));
    }
    due("root: one too many", 0, x.root(inOrder.length));
    due("root: far too many", 0, x.root(Integer.MAX_VALUE));
    x.cut(0, 1);
    due("root: without the frame that went", 10, x.root(1));
    checks.dueRefused(Checks.ARGUMENT, State.MIXED, Call.root(-1));
    checks.dueRefused(Checks.ARGUMENT, State.MIXED, Call.root(Integer.MIN_VALUE));
  }

  private static void promise10Turn() {
    Run x = State.MIXED.run();
    due("turn: three", 3, x.turn(30, 1000000));
    due("turn: lower frame", 1000000, x.peek(0, 0, 1));
    due("turn: upper frame", 1000000, x.get(2, 3));
    due("turn: global", 1000000, x.get(0, 23));
    due("turn: none left", 0, x.holds(30));
    due("turn: into one that is there", 2, x.turn(20, 10));
    due("turn: with the other", 3, x.holds(10));
    due("turn: into itself", 3, x.turn(10, 10));
    due("turn: is still there", 3, x.holds(10));
    due("turn: none", 0, x.turn(5, 6));
    due("turn: into nothing", 3, x.turn(10, 0));
    due("turn: four are left", 4, x.count(1));
    due("turn: the greatest", 3, x.turn(1000000, 1));
    x.cut(2, 1);
    due("turn: not in frames that went", 2, x.turn(1, 2));
  }

  private static void promise10TurnAtTheEnds() {
    Run x = new Run();
    x.put(0, 0, 6);
    x.put(0, 23, 6);
    due("turn: first and last", 2, x.turn(6, 7));
    due("turn: first in the order", 7, x.get(0, 0));
    due("turn: last in the order", 7, x.get(0, 23));
  }

  private static void promise10TurnWrongly() {
    for (int wrong : Wrong.VALUES) {
      checks.dueRefused(Checks.ARGUMENT, State.MIXED, Call.turn(wrong, 1));
      checks.dueRefused(Checks.ARGUMENT, State.MIXED, Call.turn(30, wrong));
    }
    checks.dueRefused(Checks.ARGUMENT, State.MIXED, Call.turn(0, 1));
    checks.dueRefused(Checks.ARGUMENT, State.MIXED, Call.turn(0, 0));
  }

  private static void promise11Renew() {
    Run x = State.MIXED.run();
    due("renew: four", 4, x.renew());
    int[] inOrder = {1, 2, 3, 2, 1, 4, 1, 0};
    for (int k = 0; k < inOrder.length; k++) {
      due("renew: root(" + k + ")", inOrder[k], x.root(k));
    }
    due("renew: places stay", 1, x.peek(0, 0, 1));
    due("renew: 0 stays", 0, x.peek(0, 0, 0));
    due("renew: nothing is as often", 64 - 7, x.holds(0));
    due("renew: again", 4, x.renew());
    due("renew: again the same", 3, x.get(1, 5));
  }

  private static void promise11RenewDoesNotMixOldAndNew() {
    Run x = new Run();
    int[] old = {3, 1, 2, 1, 3, 1000000, 4, 2};
    int[] anew = {1, 2, 3, 2, 1, 4, 5, 3};
    for (int at = 0; at < 8; at++) {
      x.put(0, at, old[at]);
    }
    x.put(2, 10, 1);
    due("renew: five", 5, x.renew());
    for (int at = 0; at < 8; at++) {
      due("renew: slot " + at, anew[at], x.get(0, at));
    }
    due("renew: global", 2, x.get(0, 10));
  }

  private static void promise11RenewForgetsFramesThatWent() {
    Run x = new Run();
    x.call(0);
    x.put(0, 0, 8);
    x.put(1, 0, 9);
    x.cut(0, 1);
    due("renew: one is left", 1, x.renew());
    due("renew: it is 1", 1, x.get(1, 0));
  }

  private static void promise12Count() {
    Run x = State.MIXED.run();
    due("count: frames", 6, x.count(0));
    due("count: not 0", 7, x.count(1));
    due("count: most frames", 2, x.count(2));
    due("count: calls", 2, x.count(3));
    due("count: different", 4, x.count(4));
    for (int mutator = 0; mutator < 4; mutator++) {
      while (x.call(mutator) < 5 + mutator % 3) {
        due("count: calls so far", x.count(0) - 4, x.count(3));
      }
    }
    due("count: the most is not the last", 7, x.count(2));
    for (int wrong : Wrong.COUNTS) {
      checks.dueRefused(Checks.ARGUMENT, State.MIXED, Call.count(wrong));
    }
  }

  private static void promise12CountOfDifferentValues() {
    Run x = new Run();
    x.put(0, 0, 6);
    due("count: one value", 1, x.count(4));
    x.put(0, 1, 6);
    due("count: the same next to it", 1, x.count(4));
    x.put(0, 23, 6);
    due("count: the same in the last place", 1, x.count(4));
    x.put(0, 22, 7);
    due("count: another one", 2, x.count(4));
    x.turn(6, 7);
    due("count: both the same", 1, x.count(4));
  }

  private static void promise12CountOfCalls() {
    Run x = new Run();
    for (int time = 1; time <= 100; time++) {
      x.call(time % 4);
      x.leave(time % 4, 0);
      due("count: calls stay when frames go", time, x.count(3));
    }
    due("count: frames went", 4, x.count(0));
    due("count: one each", 1, x.count(2));
  }

  private static void allFramesThatThereCanBe() {
    Run x = new Run();
    for (int mutator = 0; mutator < 4; mutator++) {
      for (int frames = 2; frames <= 64; frames++) {
        due("all: frames of one", frames, x.call(mutator));
      }
    }
    for (int at = 8; at < 24; at++) {
      x.put(0, at, at);
    }
    for (int mutator = 0; mutator < 4; mutator++) {
      x.put(mutator, 0, 1);
      x.put(mutator, 7, 2 + mutator);
      checks.dueThrows(Checks.STATE, x, Call.call(mutator));
    }
    due("all: frames", 256, x.count(0));
    due("all: holds(0)", 2064 - 24, x.holds(0));
    due("all: different", 21, x.count(4));
    due("all: last global", 23, x.get(3, 23));
    due("all: last slot", 5, x.peek(3, 63, 7));
    due("all: last root", 23, x.root(23));
    due("all: renew", 21, x.renew());
    due("all: last root anew", 21, x.root(23));
    due("all: cut", 63, x.cut(0, 1));
    due("all: last global stays", 21, x.get(0, 23));
    due("all: next mutator stays", 3, x.peek(1, 63, 7));
  }

  private static void objectsAreApart() {
    Run x = new Run();
    Run y = new Run();
    x.put(0, 8, 7);
    x.call(0);
    due("apart: globals", 0, y.get(0, 8));
    due("apart: frames", 4, y.count(0));
    due("apart: calls", 0, y.count(3));
  }
}
