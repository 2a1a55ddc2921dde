/** One FrameRow and the calls made on it; a test may not make more of them than are promised. */
final class Run implements Frames {
  static final int MOST_CALLS = 512;

  private final FrameRow row = new FrameRow();
  private int made = 0;

  int made() {
    return made;
  }

  private FrameRow next() {
    if (made == MOST_CALLS) {
      throw new AssertionError("the test makes more than 512 calls on one object");
    }
    made++;
    return row;
  }

  @Override
  public int call(int mutator) {
    return next().call(mutator);
  }

  @Override
  public int leave(int mutator, int slot) {
    return next().leave(mutator, slot);
  }

  @Override
  public int cut(int mutator, int frames) {
    return next().cut(mutator, frames);
  }

  @Override
  public int get(int mutator, int at) {
    return next().get(mutator, at);
  }

  @Override
  public int put(int mutator, int at, int v) {
    return next().put(mutator, at, v);
  }

  @Override
  public int peek(int mutator, int frame, int slot) {
    return next().peek(mutator, frame, slot);
  }

  @Override
  public int holds(int v) {
    return next().holds(v);
  }

  @Override
  public int root(int k) {
    return next().root(k);
  }

  @Override
  public int turn(int v, int w) {
    return next().turn(v, w);
  }

  @Override
  public int renew() {
    return next().renew();
  }

  @Override
  public int count(int what) {
    return next().count(what);
  }
}
