import java.util.Random;

/** Runs of 512 calls, the same ones each time, with each answer compared with the plain model's. */
public final class LongRunsTest {
  private static final int RUNS = 240;
  private static final int[] ODD = {
    -1, 4, 8, 24, 64, 65, 1000000, 1000001, Integer.MIN_VALUE, Integer.MAX_VALUE
  };

  /** How often each method is called, by its number in nextCall(), in runs of several kinds. */
  private static final int[][] KINDS = {
    {0, 1, 2, 3, 4, 5, 6, 7, 8, 9, 10},
    {0, 0, 0, 0, 0, 0, 0, 0, 0, 0, 0, 0, 4, 4, 5, 1, 6, 7, 10},
    {4, 4, 4, 4, 8, 9, 9, 7, 6, 3, 10, 0, 1},
    {0, 0, 0, 1, 2, 4, 4, 4, 5, 9, 7, 10}
  };

  private static final Checks checks = new Checks();

  public static void main(String[] args) {
    for (int run = 0; run < RUNS; run++) {
      oneRun(run);
    }
    checks.end();
  }

  private static void oneRun(int run) {
    Random random = new Random(run);
    int[] kind = KINDS[run % KINDS.length];
    int greatest = run % 3 == 0 ? 1000000 : 12;
    Run x = new Run();
    PlainModel model = new PlainModel();
    for (int i = 0; i < Run.MOST_CALLS; i++) {
      int method = kind[random.nextInt(kind.length)];
      Call call = nextCall(method, greatest, random, model);
      checks.due("run " + run + ", call " + i + ": " + call, call.on(model), call.on(x));
    }
  }

  private static Call nextCall(
      int method, int greatest, Random random, PlainModel model) {
    int m = pick(random, 4);
    int slot = pick(random, 8);
    int at = pick(random, 24);
    int v = pick(random, greatest + 1);
    int w = pick(random, greatest + 1);
    int frames = pick(random, model.count(2) + 1);
    int k = pick(random, model.count(1) + 2);
    int what = pick(random, 5);
    switch (method) {
      case 0:
        return Call.call(m);
      case 1:
        return Call.leave(m, slot);
      case 2:
        return Call.cut(m, frames);
      case 3:
        return Call.get(m, at);
      case 4:
        return Call.put(m, at, v);
      case 5:
        return Call.peek(m, frames, slot);
      case 6:
        return Call.holds(v);
      case 7:
        return Call.root(k);
      case 8:
        return Call.turn(v, w);
      case 9:
        return Call.renew();
      default:
        return Call.count(what);
    }
  }

  private static int pick(Random random, int bound) {
    return random.nextInt(40) == 0 ? ODD[random.nextInt(ODD.length)] : random.nextInt(bound);
  }
}
