import java.util.Random;

/** Runs of 512 calls, the same ones each time, with each answer compared with the plain model's. */
public final class LongRunsTest {
  private static final int RUNS = 240;
  private static final int CALLS = 512;
  private static final int[] ODD = {
    -1, 4, 8, 24, 64, 65, 1000000, 1000001, Integer.MIN_VALUE, Integer.MAX_VALUE
  };

  /** How often each method is called, by its number in step(), in runs of several kinds. */
  private static final int[][] KINDS = {
    {0, 1, 2, 3, 4, 5, 6, 7, 8, 9, 10},
    {0, 0, 0, 0, 0, 0, 0, 0, 0, 0, 0, 0, 4, 4, 5, 1, 6, 7, 10},
    {4, 4, 4, 4, 8, 9, 9, 7, 6, 3, 10, 0, 1},
    {0, 0, 0, 1, 2, 4, 4, 4, 5, 9, 7, 10}
  };

  private static final Checks checks = new Checks();

  public static void main(String[] args) {
    for (int run = 0; run < RUNS; run++) {
      oneRun(run);
    }
    checks.end();
  }

  private static void oneRun(int run) {
    Random random = new Random(run);
    int[] kind = KINDS[run % KINDS.length];
    int greatest = run % 3 == 0 ? 1000000 : 12;
    FrameRow x = new FrameRow();
    PlainModel model = new PlainModel();
    for (int i = 0; i < CALLS; i++) {
      step(run, kind[random.nextInt(kind.length)], greatest, random, x, model);
    }
  }

  private static void step(
      int run, int method, int greatest, Random random, FrameRow x, PlainModel model) {
    int m = pick(random, 4);
    int slot = pick(random, 8);
    int at = pick(random, 24);
    int v = pick(random, greatest + 1);
    int w = pick(random, greatest + 1);
    int frames = pick(random, model.count(2) + 1);
    int k = pick(random, model.count(1) + 2);
    int what = pick(random, 5);
    String got;
    String want;
    switch (method) {
      case 0:
        got = Checks.answer(() -> x.call(m));
        want = Checks.answer(() -> model.call(m));
        break;
      case 1:
        got = Checks.answer(() -> x.leave(m, slot));
        want = Checks.answer(() -> model.leave(m, slot));
        break;
      case 2:
        got = Checks.answer(() -> x.cut(m, frames));
        want = Checks.answer(() -> model.cut(m, frames));
        break;
      case 3:
        got = Checks.answer(() -> x.get(m, at));
        want = Checks.answer(() -> model.get(m, at));
        break;
      case 4:
        got = Checks.answer(() -> x.put(m, at, v));
        want = Checks.answer(() -> model.put(m, at, v));
        break;
      case 5:
        got = Checks.answer(() -> x.peek(m, frames, slot));
        want = Checks.answer(() -> model.peek(m, frames, slot));
        break;
      case 6:
        got = Checks.answer(() -> x.holds(v));
        want = Checks.answer(() -> model.holds(v));
        break;
      case 7:
        got = Checks.answer(() -> x.root(k));
        want = Checks.answer(() -> model.root(k));
        break;
      case 8:
        got = Checks.answer(() -> x.turn(v, w));
        want = Checks.answer(() -> model.turn(v, w));
        break;
      case 9:
        got = Checks.answer(x::renew);
        want = Checks.answer(model::renew);
        break;
      default:
        got = Checks.answer(() -> x.count(what));
        want = Checks.answer(() -> model.count(what));
        break;
    }
    checks.due("run " + run + ", method " + method, want, got);
  }

  private static int pick(Random random, int bound) {
    return random.nextInt(40) == 0 ? ODD[random.nextInt(ODD.length)] : random.nextInt(bound);
  }
}
